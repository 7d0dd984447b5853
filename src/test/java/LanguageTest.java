import java.io.IOException;
import java.lang.reflect.Field;
import java.lang.reflect.Method;
import java.lang.reflect.Modifier;
import java.nio.file.Files;
import java.nio.file.Path;
import java.util.List;
import java.util.Set;
import java.util.TreeSet;
import java.util.regex.Matcher;
import java.util.regex.Pattern;

/** The rules of ../shared/LANGUAGE.md that can be seen from outside, and the document's face. */
public final class LanguageTest {
    private static final List<String> FACE = List.of("feed int int int int int", "end int", "line", "fault int", "has int",
        "letter int int int", "station int int", "train int int", "person int int", "hire int boolean", "wish int int",
        "move int int", "day", "years int", "undo", "seed int", "stops int int int", "fares int int", "whole int",
        "least int int", "most int", "places int", "hiring int", "worth int", "bear int int", "stay int",
        "seen int int int", "dead int", "runs int int int int", "because int int", "left int int", "child int int int",
        "settles int", "both int int int", "image", "octet int", "on", "status int");
    private final Check check = new Check();

    public static void main(String[] args) throws IOException {
        LanguageTest test = new LanguageTest();
        String source = Files.readString(Path.of("src/main/java/BornAboard.java"));
        String code = source.replaceAll("(?s)/\\*.*?\\*/", "").replaceAll("//[^\n]*", "").replaceAll("\"[^\"]*\"", "\"\"");
        test.face();
        test.members();
        test.words(code);
        test.methods(code);
        test.check.finish();
    }

    private void face() {
        Set<String> found = new TreeSet<>();
        for (Method m : BornAboard.class.getDeclaredMethods()) {
            if (Modifier.isPublic(m.getModifiers())) {
                StringBuilder row = new StringBuilder(m.getName());
                for (Class<?> type : m.getParameterTypes()) {
                    row.append(' ').append(type.getSimpleName());
                }
                found.add(row.toString());
            } else {
                check.is(m + " is private", Modifier.isPrivate(m.getModifiers()) || m.isSynthetic(), true);
            }
        }
        check.is("the face is the document's: " + found, found.equals(new TreeSet<>(FACE)), true);
        check.is("final", Modifier.isFinal(BornAboard.class.getModifiers()), true);
        check.is("one constructor", BornAboard.class.getConstructors().length, 1);
        for (Field f : BornAboard.class.getDeclaredFields()) {
            check.is(f + " is private", Modifier.isPrivate(f.getModifiers()) || f.getName().equals("NONE"), true);
        }
    }

    private void members() {
        Class<?>[] inside = BornAboard.class.getDeclaredClasses();
        check.is("at most twelve classes", inside.length + 1 <= 12, true);
        Set<String> face = new TreeSet<>();
        FACE.forEach(row -> face.add(row.split(" ")[0]));
        for (Class<?> c : inside) {
            check.is(c + " is static", Modifier.isStatic(c.getModifiers()), true);
            int fields = 0;
            for (Field f : c.getDeclaredFields()) {
                fields += Modifier.isStatic(f.getModifiers()) ? 0 : 1;
            }
            check.is(c + " has at most twenty fields", fields <= 20, true);
            for (Method m : c.getDeclaredMethods()) {
                check.is(m + " bears no public name", face.contains(m.getName()), false);
                check.is(m + " takes at most seven", m.getParameterCount() <= 7, true);
            }
        }
    }

    private void words(String code) {
        for (String word : List.of("throw", "throws", "try", "catch", "finally", "synchronized", "assert", "import", "package",
            "var", "Object", "hashCode", "toString")) {
            check.is("without " + word, Pattern.compile("\\b" + word + "\\b").matcher(code).find(), false);
        }
        check.is("without lambdas", code.contains("->") || code.contains("::"), false);
        check.is("without texts joined by +", Pattern.compile("\"\"\\s*\\+|\\+\\s*\"\"").matcher(code).find(), false);
    }

    /** Methods are short, and make nothing: what they need is there since the constructor. */
    private void methods(String code) {
        Matcher head = Pattern.compile("(?m)^( {4}| {8})(?!return|new|else)([\\w\\[\\]]+ )*(\\w+)\\([^;{]*\\) \\{$").matcher(code);
        int met = 0;
        while (head.find()) {
            met++;
            int end = code.indexOf("\n" + head.group(1) + "}", head.end() - 1);
            String body = code.substring(head.end() - 1, end);
            String name = head.group(3);
            check.is(name + " is short", body.lines().count() <= 60, true);
            boolean makes = Pattern.compile("\\bnew\\b").matcher(body).find();
            check.is(name + " makes nothing", makes && !name.equals("Acts"), false);
        }
        check.is("methods were found", met > 100, true);
    }
}
