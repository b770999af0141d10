import java.io.IOException;
import java.nio.charset.StandardCharsets;
import java.nio.file.Files;
import java.nio.file.Path;
import java.util.NoSuchElementException;

/** What the tests share: feeding texts, comparing answers, ending with the exit code. */
final class Check {
    static final String[] NAMES = {"ann", "bob", "cat", "dan", "eve", "fay", "gus", "hal"};
    static final String[] UNITS = {"nuts", "figs", "pies", "eggs"};
    private static final Path DOCUMENT = Path.of("..", "shared", "DOC.md");
    private static final String NO_DOCUMENT = "none";

    private static int wrong = 0;
    private static int made = 0;
    private static int sentences = 0;
    private static String sentence = "";
    private static String document = "";

    private Check() {
    }

    static void due(String call, long got, long want) {
        made++;
        if (got != want) {
            wrong++;
            System.out.println(sentence + call + " answered " + got + ", due is " + want);
        }
    }

    /** What follows tests this sentence of the document, which must stand there word by word. */
    static void sentence(String words) {
        sentences++;
        sentence = "\"" + words + "\": ";
        if (document.isEmpty()) {
            document = readDocument();
        }
        due("the document has the sentence", document.equals(NO_DOCUMENT) || document.contains(words), true);
    }

    /** Where the document is not beside the checkout, the answers are looked at all the same. */
    private static String readDocument() {
        try {
            return Files.readString(DOCUMENT);
        } catch (IOException e) {
            System.out.println("no document at " + DOCUMENT + ": its sentences are not compared");
            return NO_DOCUMENT;
        }
    }

    static void due(String call, boolean got, boolean want) {
        due(call, got ? 1L : 0L, want ? 1L : 0L);
    }

    static void throwsNoSuch(String call, TaleSums x, int i, int what) {
        boolean thrown = false;
        try {
            x.sentence(i, what);
        } catch (NoSuchElementException e) {
            thrown = true;
        }
        due(call + " throws", thrown, true);
    }

    /** Feeds a text of signs 1 to 255; the last answer of feed(). */
    static int feed(TaleSums x, String text) {
        byte[] bytes = text.getBytes(StandardCharsets.ISO_8859_1);
        int[] numbers = new int[5];
        int last = x.count(0);
        for (int at = 0; at < bytes.length; at += 20) {
            for (int k = 0; k < 5; k++) {
                numbers[k] = 0;
                for (int j = 0; j < 4; j++) {
                    int place = at + 4 * k + j;
                    numbers[k] = numbers[k] << 8 | (place < bytes.length ? bytes[place] & 255 : 0);
                }
            }
            last = x.feed(numbers[0], numbers[1], numbers[2], numbers[3], numbers[4]);
        }
        return last;
    }

    static int faultOf(String text) {
        TaleSums x = new TaleSums();
        feed(x, text);
        return x.fault();
    }

    static TaleSums told(String text) {
        TaleSums x = new TaleSums();
        feed(x, text);
        due("tale() of " + text, x.tale(), true);
        return x;
    }

    static void answers(TaleSums x, long top, long bottom) {
        due("answer(0)", x.answer(0), top);
        due("answer(1)", x.answer(1), bottom);
    }

    static void finish(String test) {
        String of = sentences == 0 ? "" : " for " + sentences + " sentences of the document";
        System.out.println(test + ": " + made + " answers looked at" + of + ", " + wrong + " wrong");
        if (wrong != 0) {
            System.exit(1);
        }
    }
}
