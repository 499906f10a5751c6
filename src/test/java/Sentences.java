import java.io.IOException;
import java.nio.charset.StandardCharsets;
import java.nio.file.Files;
import java.nio.file.Path;
import java.util.Arrays;
import java.util.Map;
import java.util.TreeMap;
import java.util.regex.Matcher;
import java.util.regex.Pattern;

/**
 * The document's own words, each with a test of its own. A test names the words that it holds; words that the
 * document does not have, and words of the document that no test has named, are faults.
 */
final class Sentences {
    /** The number under which the terms stand, which are ahead of promise 1. */
    static final int TERMS = 0;

    private static final Path DOCUMENT = Path.of("../shared/DOC.md");
    private static final Pattern PROMISE = Pattern.compile("## Promise (\\d+): .*");
    /** FaceTest holds the face, and with it what a promise says of it in code signs. */
    private static final Pattern SIGNATURE = Pattern.compile("^`[^`]*\\)[^`]*`: ");

    private static final Map<Integer, String> TEXTS = new TreeMap<>();
    private static final Map<Integer, boolean[]> NAMED = new TreeMap<>();

    private Sentences() {
    }

    static void read() throws IOException {
        int section = TERMS;
        boolean isCode = false;
        for (String line : Files.readAllLines(DOCUMENT, StandardCharsets.UTF_8)) {
            Matcher promise = PROMISE.matcher(line);
            isCode ^= line.startsWith("```");
            if (line.startsWith("## Not promised")) {
                break;
            } else if (promise.matches()) {
                section = Integer.parseInt(promise.group(1));
            } else if (!isCode && !line.startsWith("#") && !line.startsWith("```") && !line.isBlank()) {
                String words = section == TERMS ? line : SIGNATURE.matcher(line).replaceFirst("");
                TEXTS.merge(section, words, (above, below) -> above + "\n" + below);
            }
        }
        TEXTS.forEach((number, text) -> NAMED.put(number, new boolean[text.length()]));
    }

    /** The words of a promise, or of the terms, hold: the test makes towers, and tells what is wrong. */
    static void hold(int section, String words, Runnable test) {
        name(section, words);
        int ahead = Suite.checks();
        Suite.of("\"" + words + "\": ");
        try {
            test.run();
        } catch (RuntimeException unlooked) {
            Suite.tell(false, "the test of these words was ended by " + unlooked);
        }
        Suite.is("the test of these words checks something", true, Suite.checks() > ahead);
        Suite.of("");
    }

    /** Words that name no edge, or only tell what others say: they need no test. */
    static void name(int section, String words) {
        String text = TEXTS.getOrDefault(section, "");
        int at = text.indexOf(words);
        Suite.tell(at >= 0, "the document does not say under " + section + ": " + words);
        for (; at >= 0; at = text.indexOf(words, at + 1)) {
            Arrays.fill(NAMED.get(section), at, at + words.length(), true);
        }
    }

    static void allAreNamed() {
        TEXTS.forEach((section, text) -> {
            StringBuilder left = new StringBuilder();
            for (int i = 0; i < text.length(); i++) {
                left.append(NAMED.get(section)[i] ? '\n' : text.charAt(i));
            }
            for (String words : left.toString().split("\n")) {
                boolean isSaid = words.chars().anyMatch(Character::isLetterOrDigit);
                Suite.tell(!isSaid, "no test holds these words of " + section + ": " + words);
            }
        });
    }
}
