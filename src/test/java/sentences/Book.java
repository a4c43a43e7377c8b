import java.nio.charset.StandardCharsets;
import java.nio.file.Files;
import java.nio.file.Path;
import java.util.Arrays;

/** The document's sentences, the one that is held to at the moment, and what was answered wrong. */
final class Book {
    static final int NONE = -1000000, BAD = -1000001, STATE = -1000002, FULL = -1000003, KIND = -1000004;
    static final int LEAST = Integer.MIN_VALUE, MOST = Integer.MAX_VALUE;

    private static final Path DOCUMENT = Path.of("..", "shared", "DOC.md");
    private static final int PROMISES = 23;

    private static String document = "";
    private static boolean[] held = new boolean[0];
    private static int promise = 0;
    private static String sentence = "";
    private static int tests = 0;
    private static int wrong = 0;

    private Book() {
    }

    static void open() throws Exception {
        if (!Files.exists(DOCUMENT)) {
            System.out.println(DOCUMENT + " was not found: the sentences are not looked up in it");
            return;
        }
        String all = new String(Files.readAllBytes(DOCUMENT), StandardCharsets.UTF_8);
        document = all.replaceAll("```[a-z]*", " ").replaceAll("\\s+", " ");
        held = new boolean[document.length()];
    }

    /** A test begins: it holds the class to this sentence of the document, as the promise shows it. */
    static void test(int ofPromise, String words) {
        promise = ofPromise;
        sentence = words;
        tests++;
        if (document.isEmpty()) return;
        int at = document.indexOf(words);
        if (at < 0) fail("the document has no such sentence");
        for (; at >= 0; at = document.indexOf(words, at + 1)) {
            // The same words under another promise are another sentence.
            int here = promiseAt(at);
            if (here == 0 || here == promise) Arrays.fill(held, at, at + words.length(), true);
        }
    }

    static void due(String call, long got, long want) {
        if (got != want) fail(call + " answered " + got + ", due is " + want);
    }

    static void due(String call, boolean got) {
        if (!got) fail(call + " does not hold");
    }

    static void same(String call, long[] before, long[] after) {
        if (!Arrays.equals(before, after)) {
            fail(call + " changed " + Arrays.toString(before) + " to " + Arrays.toString(after));
        }
    }

    private static void fail(String why) {
        wrong++;
        System.out.println("promise " + promise + ", '" + sentence + "': " + why);
    }

    /** Each sentence of the terms and of the promises must have had its test. */
    static int close() {
        if (!document.isEmpty()) {
            sentence = "no test";
            lookOver("## Terms", "Ahead of the calls", 0);
            for (int each = 1; each <= PROMISES; each++) {
                lookOver("## Promise " + each + ":", each < PROMISES ? "## Promise " + (each + 1) + ":" : "## Not promised", each);
            }
        }
        System.out.println(wrong == 0 ? "all sentences hold in " + tests + " tests" : wrong + " faults in " + tests + " tests");
        return wrong;
    }

    private static void lookOver(String heading, String behind, int ofPromise) {
        promise = ofPromise;
        int from = document.indexOf(heading) + heading.length();
        int to = document.indexOf(behind);
        // A promise begins behind the method's own line, which is no sentence.
        if (ofPromise > 0) from = document.indexOf("`: ", from) + 2;
        if (from < heading.length() || to < from) {
            fail("'" + heading + "' was not found");
            return;
        }
        boolean[] spoken = held.clone();
        for (int part = 1; part <= 5 && ofPromise == 0; part++) {
            int at = document.indexOf("======== " + part + " ");
            if (at >= 0) Arrays.fill(spoken, at, at + 10, true);
        }
        for (int i = from; i < to; i++) {
            int start = i;
            boolean words = false;
            for (; i < to && !spoken[i]; i++) words |= Character.isLetterOrDigit(document.charAt(i));
            if (words) fail("of '" + document.substring(start, i).trim() + "'");
        }
    }

    /** The promise whose text stands there; 0: the terms or what is ahead of and behind them all. */
    private static int promiseAt(int at) {
        if (at > document.indexOf("## Not promised")) return 0;
        int found = 0;
        for (int each = 1; each <= PROMISES; each++) {
            int heading = document.indexOf("## Promise " + each + ":");
            if (heading >= 0 && heading < at) found = each;
        }
        return found;
    }

    /** Numbers that are not from least to most, those among them that wrap into it in a byte or a short. */
    static int[] outside(int least, int most) {
        return new int[] {least - 1, most + 1, LEAST, MOST, -1 - most, most + 256, least + 65536, LEAST + least, ~least};
    }
}
