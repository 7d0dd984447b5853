import java.io.IOException;
import java.lang.reflect.Method;
import java.lang.reflect.Modifier;
import java.net.URL;
import java.net.URLClassLoader;
import java.nio.file.Files;
import java.nio.file.Path;
import java.util.ArrayList;
import java.util.List;
import java.util.Set;
import java.util.TreeSet;
import java.util.function.BiConsumer;
import java.util.regex.Matcher;
import java.util.regex.Pattern;
import java.util.stream.Stream;
import javax.tools.JavaCompiler;
import javax.tools.ToolProvider;

/** README.md shows each call, with answers that the class gives, and has every test in its table. */
public final class ReadmeTest {
    private static final Pattern BLOCK = Pattern.compile("(?ms)^```java\n(.*?)^```$");
    // A call as a statement, behind it its answer; a text block in it may have any sign.
    private static final Pattern SHOWN = Pattern.compile("(?ms)^((?:x\\.|tell\\()(?:\"\"\".*?\"\"\"|[^;\"])*);\\s*// (\\w+)[^\n]*$");
    private static final Pattern CALL = Pattern.compile("(?m)^(x\\.|tell\\()");
    private final Check check = new Check();
    private final List<String> calls = new ArrayList<>();
    private final List<String> answers = new ArrayList<>();

    public static void main(String[] args) throws Exception {
        ReadmeTest test = new ReadmeTest();
        String page = Files.readString(Path.of("README.md"));
        test.answers(page);
        test.face();
        test.table(page);
        test.check.finish();
    }

    private void answers(String page) throws Exception {
        StringBuilder members = new StringBuilder();
        StringBuilder run = new StringBuilder();
        Matcher block = BLOCK.matcher(page);
        while (block.find()) {
            (block.group(1).startsWith("static") ? members : run).append(block.group(1));
        }
        String body = hearing(run.toString());
        check.begin("README.md");
        check.is("calls with an answer", calls.size(), CALL.matcher(run).results().count());
        Class<?> shown = compiled("public final class Shown {\n" + members
            + "public static void run(java.util.function.BiConsumer<Integer, Object> hears) {\n" + body + "}\n}\n");
        BiConsumer<Integer, Object> hears = (which, got) -> {
            String due = answers.get(which).equals("NONE") ? String.valueOf(BornAboard.NONE) : answers.get(which);
            check.is(calls.get(which) + " answers " + got + ", shown is " + due + ": same", got.toString().equals(due), true);
        };
        int asked = check.asked();
        shown.getMethod("run", BiConsumer.class).invoke(null, hears);
        check.is("calls heard", check.asked() - asked, calls.size());
    }

    /** The same statements, each handing its answer on. */
    private String hearing(String run) {
        return SHOWN.matcher(run).replaceAll(call -> {
            calls.add(call.group(1));
            answers.add(call.group(2));
            return Matcher.quoteReplacement("hears.accept(" + (calls.size() - 1) + ", " + call.group(1) + ");");
        });
    }

    private static Class<?> compiled(String source) throws Exception {
        JavaCompiler compiler = ToolProvider.getSystemJavaCompiler();
        Path dir = Files.createTempDirectory("readme");
        Path file = dir.resolve("Shown.java");
        try {
            Files.writeString(file, source);
            int code = compiler.run(null, null, null, "-d", dir.toString(), "-cp", System.getProperty("java.class.path"), file.toString());
            if (code != 0) {
                throw new IllegalStateException("what README.md shows does not compile");
            }
            try (URLClassLoader loader = new URLClassLoader(new URL[] {dir.toUri().toURL()})) {
                return loader.loadClass("Shown");
            }
        } finally {
            Files.deleteIfExists(dir.resolve("Shown.class"));
            Files.deleteIfExists(file);
            Files.deleteIfExists(dir);
        }
    }

    private void face() {
        for (Method m : BornAboard.class.getDeclaredMethods()) {
            if (Modifier.isPublic(m.getModifiers())) {
                boolean shown = calls.stream().anyMatch(call -> call.startsWith("x." + m.getName() + "("));
                check.is(m.getName() + " is shown", shown, true);
            }
        }
        check.is("fewer calls than an object is good for", calls.size() < 450, true);
    }

    private void table(String page) throws IOException {
        Set<String> told = new TreeSet<>();
        Pattern.compile("(?m)^\\| (\\w+Test) \\|").matcher(page).results().forEach(row -> told.add(row.group(1)));
        Set<String> there = new TreeSet<>();
        try (Stream<Path> files = Files.list(Path.of("src/test/java"))) {
            files.map(file -> file.getFileName().toString()).filter(name -> name.endsWith("Test.java"))
                .forEach(name -> there.add(name.substring(0, name.length() - ".java".length())));
        }
        check.is("the table has " + told + ", there are " + there + ": same", told.equals(there), true);
    }
}
