import java.io.IOException;
import java.nio.file.Files;
import java.nio.file.Path;

/** The README's example and sentences: they stand there as they are tried here, and answer as it says. */
public final class ReadmeTest {
    private static final String[] EXAMPLE = {
        "x.feed(0x616e6e20, 0x68617320, 0x35206e75, 0x74732e20, 0x686f7720);",
        "x.feed(0x6d616e79, 0x206e7574, 0x73206861, 0x7320616e, 0x6e3f0000);",
        "if (x.fault() == TaleSums.NONE && x.tale()) {",
        "long top = x.answer(0);     // 5", "long bottom = x.answer(1);  // 1",
        "x.put(0, 8);                // now ann has 8 nuts", "x.undo();                   // and 5 again"};
    private static final String[] SENTENCES = {
        "ann has 5 nuts.", "ann has 5 more nuts than bob.", "ann has 5 fewer nuts than bob.",
        "ann has 5 times as many nuts as bob.", "ann and bob have 5 nuts.", "ann gives 5 nuts to bob.",
        "ann buys 5 nuts.", "ann eats 5 nuts."};
    private static final String[] QUESTIONS = {
        "how many nuts has ann?", "how many nuts have ann and bob?", "how many nuts had ann?"};

    private ReadmeTest() {
    }

    public static void main(String[] args) throws IOException {
        String page = Files.readString(Path.of("README.md"));
        for (String line : EXAMPLE) {
            Check.due("README.md has " + line, page.contains(line), true);
        }
        example();
        for (int sort = 0; sort < SENTENCES.length; sort++) {
            Check.due("README.md has " + SENTENCES[sort], page.contains(SENTENCES[sort]), true);
            TaleSums x = Check.told(SENTENCES[sort] + " " + QUESTIONS[0]);
            Check.due("sort of " + SENTENCES[sort], x.sentence(0, 0), sort);
        }
        for (int sort = 0; sort < QUESTIONS.length; sort++) {
            Check.due("README.md has " + QUESTIONS[sort], page.contains(QUESTIONS[sort]), true);
            Check.due("sort of " + QUESTIONS[sort], Check.told(QUESTIONS[sort]).question(0), sort);
        }
        Check.finish("ReadmeTest");
    }

    private static void example() {
        TaleSums x = new TaleSums();
        x.feed(0x616e6e20, 0x68617320, 0x35206e75, 0x74732e20, 0x686f7720);
        x.feed(0x6d616e79, 0x206e7574, 0x73206861, 0x7320616e, 0x6e3f0000);
        Check.due("fault()", x.fault(), TaleSums.NONE);
        Check.due("tale()", x.tale(), true);
        Check.answers(x, 5, 1);
        Check.due("put(0, 8)", x.put(0, 8), true);
        Check.answers(x, 8, 1);
        Check.due("undo()", x.undo(), 0);
        Check.answers(x, 5, 1);
    }
}
