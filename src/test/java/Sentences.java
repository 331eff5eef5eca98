import java.io.IOException;
import java.nio.file.Files;
import java.nio.file.Path;
import java.util.Map;
import java.util.TreeMap;

/** Ties each test to the words of the document that it tests, and finds the words that no test is tied to. */
abstract class Sentences extends Due {
    private static final Path DOCUMENT = Path.of("../shared/DOC.md");
    private static final int PROMISES = 23;
    private static final Map<String, String> SECTIONS = new TreeMap<>();
    private static final Map<String, boolean[]> TESTED = new TreeMap<>();

    /** Where there is no document the tests run all the same, and it is told that their words were not compared. */
    static void readTheDocument() throws IOException {
        if (!Files.exists(DOCUMENT)) {
            System.out.println("there is no " + DOCUMENT + ": the words are not compared with it");
            return;
        }
        String text = Files.readString(DOCUMENT).replaceAll("(?m)^```.*$", "");
        for (String section : text.split("(?m)^## ")) {
            int heading = section.indexOf('\n');
            if (heading < 0) {
                continue;
            }
            String name = section.substring(0, heading).replaceAll(":.*", "").trim();
            String body = section.substring(heading).replaceAll("\\s+", " ").replaceAll("^ `[^`]*`: ", "");
            SECTIONS.put(name, body);
            TESTED.put(name, new boolean[body.length()]);
        }
    }

    static void promise(int number, String words, Runnable test) {
        sentence("Promise " + number, words, test);
    }

    static void sentence(String section, String words, Runnable test) {
        String name = section + ": " + words;
        if (!SECTIONS.isEmpty()) {
            compare(name, markAsTested(section, words) ? name : "the document has no such words");
        }
        int checksBefore = checksSoFar();
        int wrongBefore = wrongSoFar();
        test.run();
        if (wrongSoFar() != wrongBefore) {
            System.out.println("  in the test of \"" + name + "\"");
        }
        compare("a test of " + name, (checksSoFar() == checksBefore ? "no test of " : "a test of ") + name);
    }

    /** Words that stand more than once are marked in their order, so that each place wants a test of its own. */
    private static boolean markAsTested(String section, String words) {
        String body = SECTIONS.getOrDefault(section, "");
        boolean[] tested = TESTED.get(section);
        int at = body.indexOf(words);
        while (at >= 0 && tested[at]) {
            at = body.indexOf(words, at + 1);
        }
        for (int i = 0; at >= 0 && i < words.length(); i++) {
            tested[at + i] = true;
        }
        return at >= 0;
    }

    static void everySentenceIsTested() {
        if (SECTIONS.isEmpty()) {
            return;
        }
        noWordsLeft("Terms");
        for (int number = 1; number <= PROMISES; number++) {
            noWordsLeft("Promise " + number);
        }
        compare(PROMISES + " promises", SECTIONS.keySet().stream().filter(s -> s.startsWith("Promise ")).count()
            + " promises");
    }

    private static void noWordsLeft(String section) {
        String body = SECTIONS.getOrDefault(section, "?");
        boolean[] tested = TESTED.getOrDefault(section, new boolean[body.length()]);
        StringBuilder left = new StringBuilder();
        for (int i = 0; i < body.length(); i++) {
            left.append(tested[i] ? ' ' : body.charAt(i));
        }
        compare(section + " without a test: ", section + " without a test: "
            + left.toString().replaceAll("\\s+", " ").trim());
    }
}
