import java.io.IOException;
import java.nio.charset.StandardCharsets;
import java.nio.file.Files;
import java.nio.file.Path;
import java.util.BitSet;
import java.util.LinkedHashMap;
import java.util.Map;
import java.util.regex.Matcher;
import java.util.regex.Pattern;

/**
 * The words of ../shared/DOC.md, part by part (what it is, the Terms, the promises), and which of them a test has
 * spoken for: no sentence is left without a test of its own, and no test stands for words that the document doesn't
 * have. It is run in the project's folder.
 */
final class Document {
    private static final Path FILE = Path.of("..", "shared", "DOC.md");
    private static final Path TESTS = Path.of("src", "test", "java");
    private static final Pattern WHAT = Pattern.compile("## (What it is) (.*?)(?=## )");
    private static final Pattern TERM = Pattern.compile("======== ((?:\\d )?[A-Z]+(?: [A-Z]+)*)(.*?)(?=========|Ahead of|\\z)");
    private static final Pattern PROMISE = Pattern.compile("## (Promise \\d+): [^`]*`[^`]*`: (.*?)(?=## |\\z)");
    private static final String PROMISED = "Promise ";
    private static final Map<String, String> PARTS = read();
    private static final Map<String, BitSet> SPOKEN = new LinkedHashMap<>();
    private static String latest = "";
    private static int seenBefore = 0;

    private Document() {
    }

    static Map<String, String> parts() {
        return PARTS;
    }

    /** The test that must speak for all words of a part. */
    static String owner(String part) {
        switch (part) {
            case "What it is": case "ANSWERS": return "AnswersTest";
            case "1 THE SEA": return "SeaTermsTest";
            case "2 A RACE": return "RaceTermsTest";
            case "3 LOGS": return "LogTermsTest";
            default: return part.startsWith(PROMISED) ? ownerOfPromise(Integer.parseInt(part.substring(PROMISED.length()))) : "";
        }
    }

    private static String ownerOfPromise(int promise) {
        int[] last = {7, 14, 17, 20, 26, 30};
        String[] owners = {"SeaTest", "ShipTest", "RaceTest", "LogTest", "MarketTest", "ToldTest"};
        for (int i = 0; i < last.length; i++) {
            if (promise <= last[i]) {
                return owners[i];
            }
        }
        return "";
    }

    static void says(int promise, String words) {
        says(PROMISED + promise, words);
    }

    /** The answers from now on are about these words of a part; some answer must come before other words are told. */
    static void says(String part, String words) {
        endWords();
        Check.about(part + ": " + words);
        latest = words;
        seenBefore = Check.seen();
        if (PARTS.isEmpty()) {
            return;
        }
        String text = PARTS.getOrDefault(part, "");
        int at = text.indexOf(words);
        if (at < 0 || text.indexOf(words, at + 1) >= 0) {
            Check.holds("the document has these words, once", false);
            return;
        }
        SPOKEN.computeIfAbsent(part, p -> new BitSet()).set(at, at + words.length());
    }

    private static void endWords() {
        if (!latest.isEmpty() && Check.seen() == seenBefore) {
            Check.holds("something is asked about these words", false);
        }
    }

    /** Every letter and number of the parts that a test must speak for has been spoken for. */
    static void close(String test) {
        endWords();
        Check.about("");
        if (PARTS.isEmpty()) {
            System.out.println(FILE + " can't be read: that its words are spoken for is not looked at");
        }
        for (Map.Entry<String, String> part : PARTS.entrySet()) {
            Check.holds(part.getKey() + " has a test", Files.exists(TESTS.resolve(owner(part.getKey()) + ".java")));
            if (owner(part.getKey()).equals(test)) {
                String left = unspoken(part.getValue(), SPOKEN.getOrDefault(part.getKey(), new BitSet()));
                Check.holds(part.getKey() + " has no words without a test: " + left, left.isEmpty());
            }
        }
        Check.close(test);
    }

    private static String unspoken(String text, BitSet spoken) {
        StringBuilder left = new StringBuilder();
        for (int i = 0; i < text.length(); i++) {
            if (!spoken.get(i)) {
                left.append(text.charAt(i));
            }
        }
        return left.chars().anyMatch(Character::isLetterOrDigit) ? left.toString() : "";
    }

    private static Map<String, String> read() {
        Map<String, String> parts = new LinkedHashMap<>();
        try {
            String text = Files.readString(FILE, StandardCharsets.UTF_8);
            String plain = text.replaceAll("(?m)^```.*$", " ").replaceAll("\\s+", " ");
            put(parts, WHAT.matcher(plain));
            put(parts, TERM.matcher(plain));
            put(parts, PROMISE.matcher(plain));
        } catch (IOException e) {
            parts.clear();
        }
        return parts;
    }

    private static void put(Map<String, String> parts, Matcher found) {
        while (found.find()) {
            parts.put(found.group(1), found.group(2).trim());
        }
    }
}
