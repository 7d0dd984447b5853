import java.io.IOException;
import java.lang.reflect.Method;
import java.nio.file.Files;
import java.nio.file.Path;
import java.util.ArrayList;
import java.util.BitSet;
import java.util.List;
import java.util.regex.Matcher;
import java.util.regex.Pattern;

/** Each sentence of the document's promises and terms is said by an edge test, which says nothing that stands not there. */
public final class SentencesTest {
    private static final List<Class<?>> EDGES = List.of(EdgesOfTextTest.class, EdgesOfStateTest.class, EdgesOfActsTest.class,
        EdgesOfDaysTest.class, EdgesOfHiringTest.class, EdgesOfWorthTest.class, EdgesOfImagesTest.class);
    private static final int PROMISES = 39;
    private final Check check = new Check();
    private final List<List<String>> said = new ArrayList<>();

    public static void main(String[] args) throws IOException {
        String doc = plain(Files.readString(Path.of("../shared/DOC.md")));
        SentencesTest test = new SentencesTest();
        test.gather();
        String terms = between(doc, "## Terms", "## Promise 1:");
        for (int promise = 1; promise <= PROMISES; promise++) {
            String next = promise == PROMISES ? "## Not promised" : "## Promise " + (promise + 1) + ":";
            test.promise(promise, between(doc, "## Promise " + promise + ":", next), terms);
        }
        test.terms(terms);
        test.check.finish();
    }

    /** Blanks as they may come, and ranges without theirs, so that a point ends a sentence. */
    private static String plain(String text) {
        return text.replaceAll("```(text)?", "").replaceAll("\\s+", " ").replace(" .. ", "..");
    }

    private static String between(String doc, String from, String to) {
        int start = doc.indexOf(from);
        int end = doc.indexOf(to, start);
        if (start < 0 || end < 0) {
            throw new IllegalStateException("the document has no " + from + " ahead of " + to);
        }
        return doc.substring(start + from.length(), end);
    }

    private void gather() {
        for (int promise = 0; promise <= PROMISES; promise++) {
            said.add(new ArrayList<>());
        }
        for (Class<?> type : EDGES) {
            for (Method test : Edges.tests(type)) {
                int promise = Integer.parseInt(test.getName().substring(1, 3));
                for (String words : test.getAnnotation(Says.class).value()) {
                    said.get(promise).add(plain(words));
                }
            }
        }
    }

    private void promise(int promise, String text, String terms) {
        check.begin("promise " + promise);
        for (String words : said.get(promise)) {
            check.is("\"" + words + "\" stands there", text.contains(words) || terms.contains(words), true);
        }
        // Behind the title and the call's face.
        allIsSaid(text.substring(text.lastIndexOf("`:") + 2), said.get(promise));
    }

    private void terms(String terms) {
        check.begin("terms");
        List<String> all = new ArrayList<>();
        said.forEach(all::addAll);
        allIsSaid(between(terms, "images. I. ", "The constants:"), all);
    }

    /** Of each sentence at least half is in the words of some test. */
    private void allIsSaid(String text, List<String> words) {
        BitSet covered = new BitSet();
        for (String some : words) {
            for (int at = text.indexOf(some); at >= 0; at = text.indexOf(some, at + 1)) {
                covered.set(at, at + some.length());
            }
        }
        Matcher sentence = Pattern.compile("([^.;:]|[.;:](?! |$))+").matcher(text);
        while (sentence.find()) {
            boolean title = sentence.group().matches(" ?[A-Z ]*");
            int share = covered.get(sentence.start(), sentence.end()).cardinality();
            check.is("a test says \"" + sentence.group() + "\"", title || 2 * share >= sentence.group().length(), true);
        }
    }
}
