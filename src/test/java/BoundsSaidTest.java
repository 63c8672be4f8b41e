import java.io.IOException;
import java.lang.reflect.Method;
import java.nio.file.Files;
import java.nio.file.Path;
import java.util.Map;
import java.util.TreeMap;
import java.util.regex.Matcher;
import java.util.regex.Pattern;

/**
 * That the Bounds tests go with the document: what each one Says stands there, each promise has some,
 * and wherever the document names a bound or a refusal, a test Says it.
 */
public final class BoundsSaidTest {
    private static final Path DOCUMENT = Path.of("../shared/DOC.md");
    private static final int PROMISES = 31;
    /** What stands ahead of the promises is kept under this number. */
    private static final int TERMS = 0;
    private static final Class<?>[] TESTS = {BoundsFairTest.class, BoundsActsTest.class,
        BoundsFallsTest.class, BoundsHoldsTest.class, BoundsChancesTest.class, BoundsSlotsTest.class};
    private static final Pattern REFUSAL =
            Pattern.compile("\\b(UNKNOWN|BAD|LATE|FULL|NONE)\\b(: [^.;(]*(\\([^)]*\\))?)?");
    private static final Pattern BOUND = Pattern.compile("[0-9]+ \\.\\. [0-9]+|[0-9]+ at (most|least)"
            + "|[0-9]+ such at most|(?i:at first)|wrapping|\\b(OFF|NONE) \\(|is forgotten|none or more"
            + "|[0-9]+: it is down|is refused|of several|told ahead|told yet|not any more");
    private static final Checks CHECKS = new Checks();

    public static void main(String[] args) throws IOException {
        eachPromiseHasTests();
        if (Files.exists(DOCUMENT)) {
            compareWith(sectionsOf(Files.readString(DOCUMENT)));
        } else {
            System.out.println("BoundsSaidTest: there is no " + DOCUMENT + ", nothing is compared with it");
        }
        CHECKS.end("BoundsSaidTest");
    }

    private static void compareWith(Map<Integer, String> document) {
        CHECKS.due("promises told by the document", document.size() - 1, PROMISES);
        Map<Integer, boolean[]> said = whatIsSaid(document);
        document.forEach((section, text) -> {
            allSaid(REFUSAL, section, text, said.get(section));
            allSaid(BOUND, section, text, said.get(section));
        });
    }

    /** The document's text by promise, each with one space for any white space. */
    private static Map<Integer, String> sectionsOf(String document) {
        Map<Integer, String> sections = new TreeMap<>();
        String plain = document.replaceAll("\\s+", " ");
        plain = plain.substring(plain.indexOf("## Terms"), plain.indexOf("## Not promised"));
        String[] parts = plain.split("## Promise ");
        sections.put(TERMS, parts[0]);
        for (int i = 1; i < parts.length; i++) {
            int colon = parts[i].indexOf(':');
            sections.put(Integer.parseInt(parts[i].substring(0, colon)), parts[i].substring(colon + 1));
        }
        return sections;
    }

    /** For each section which of its signs a test of the promise (or any test, of the terms) Says. */
    private static Map<Integer, boolean[]> whatIsSaid(Map<Integer, String> document) {
        Map<Integer, boolean[]> said = new TreeMap<>();
        document.forEach((section, text) -> said.put(section, new boolean[text.length()]));
        for (Class<?> tests : TESTS) {
            for (Method method : Sentences.of(tests)) {
                CHECKS.within(method.getName());
                Says says = method.getAnnotation(Says.class);
                CHECKS.due("that it Says something (1)", says == null ? 0 : 1, 1);
                for (String words : says == null ? new String[0] : says.value()) {
                    mark(document, said, Sentences.promiseOf(method), words);
                }
            }
        }
        CHECKS.within("document");
        return said;
    }

    private static void mark(Map<Integer, String> document, Map<Integer, boolean[]> said, int promise, String words) {
        String own = document.getOrDefault(promise, "");
        int section = own.contains(words) ? promise : TERMS;
        String text = document.get(section);
        CHECKS.due("that the document Says '" + words + "' (1)", text.contains(words) ? 1 : 0, 1);
        for (int at = text.indexOf(words); at >= 0; at = text.indexOf(words, at + 1)) {
            for (int i = at; i < at + words.length(); i++) {
                said.get(section)[i] = true;
            }
        }
    }

    /** Each place that the pattern finds in the text is said, whole. */
    private static void allSaid(Pattern pattern, int section, String text, boolean[] said) {
        Matcher matcher = pattern.matcher(text);
        while (matcher.find()) {
            int unsaid = 0;
            for (int i = matcher.start(); i < matcher.end(); i++) {
                unsaid += said[i] || text.charAt(i) == ' ' ? 0 : 1;
            }
            CHECKS.due("section " + section + ", '" + matcher.group() + "', signs that no test Says", unsaid, 0);
        }
    }

    private static void eachPromiseHasTests() {
        int[] many = new int[PROMISES + 1];
        for (Class<?> tests : TESTS) {
            for (Method method : Sentences.of(tests)) {
                many[Math.min(PROMISES, Sentences.promiseOf(method))]++;
            }
        }
        for (int promise = 1; promise <= PROMISES; promise++) {
            CHECKS.due("tests of promise " + promise + ", 2 or more (1)", many[promise] >= 2 ? 1 : 0, 1);
        }
    }
}
