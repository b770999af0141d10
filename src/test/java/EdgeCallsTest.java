import java.util.NoSuchElementException;

/** The edges that the promises 1 to 18 name, and what is refused: a test for each sentence. */
public final class EdgeCallsTest {
    private static final long UNTOLD = TaleSums.UNTOLD;
    private static final int LEAST = Integer.MIN_VALUE;
    private static final int MOST = Integer.MAX_VALUE;
    private static final int FOUR_BLANKS = 0x20202020;
    private static final String ASK = "how many nuts has ann?";
    private static final String[] SORTS = {"ann has 5 nuts.", "ann has 5 more nuts than bob.",
        "ann has 5 fewer nuts than bob.", "ann has 5 times as many nuts as bob.", "ann and bob have 5 nuts.",
        "ann gives 5 nuts to bob.", "ann buys 5 nuts.", "ann eats 5 nuts."};

    public static void main(String[] args) {
        calls();
        newObject();
        feedOrder();
        feedZeros();
        feedTooMany();
        end();
        endRefused();
        fault();
        tale();
        taleRefused();
        sentences();
        sentence();
        sentenceRefused();
        question();
        questionRefused();
        quarrel();
        answer();
        amount();
        idle();
        enough();
        lacking();
        strange();
        put();
        putRefused();
        undo();
        undoLatest();
        count();
        countOthers();
        refused();
        Check.finish("EdgeCallsTest");
    }

    private static void calls() {
        Check.sentence("An object is used for at most 512 calls after it has been made;");
        TaleSums x = new TaleSums();
        int made = 0;
        int[] five = {0x616e6e20, 0x62757973, 0x20393939, 0x206e7574, 0x732e2020};
        for (; made < 10; made++) {
            Check.due("feed", x.feed(five[0], five[1], five[2], five[3], five[4]), 20L * (made + 1));
        }
        x.feed(0x686f7720, 0x6d616e79, 0x206e7574, 0x73206861, 0x7320616e);
        x.feed(0x6e3f0000, 0, 0, 0, 0);
        Check.due("tale()", x.tale(), true);
        made += 3;
        for (; made < 510; made++) {
            Check.due("put", x.put(made % 10, made), true);
        }
        Check.due("call 511", x.undo(), 509 % 10);
        Check.due("call 512", x.sentence(9, 4), 499);

        TaleSums full = new TaleSums();
        for (int call = 1; call <= 512; call++) {
            int want = Math.min(20 * call, 400);
            Check.due("call " + call, full.feed(FOUR_BLANKS, FOUR_BLANKS, FOUR_BLANKS, FOUR_BLANKS, FOUR_BLANKS),
                    call <= 20 ? want : -1);
        }
    }

    private static void newObject() {
        Check.sentence("`TaleSums()`: No TALE.");
        TaleSums x = new TaleSums();
        Check.due("sentences()", x.sentences(), 0);
        Check.throwsNoSuch("sentence(0, 0)", x, 0, 0);
        for (int what = 0; what < 5; what++) {
            Check.due("question(" + what + ")", x.question(what), -1);
            Check.due("count(" + what + ")", x.count(what), 0);
        }
        for (int what = 0; what < 3; what++) {
            Check.due("strange(" + what + ")", x.strange(what), -1);
            Check.due("answer(" + what + ")", x.answer(what), UNTOLD);
            Check.due("amount(0, 0, 0, " + what + ")", x.amount(0, 0, 0, what), UNTOLD);
        }
        Check.due("quarrel()", x.quarrel(), -1);
        Check.due("idle()", x.idle(), 0);
        Check.due("enough()", x.enough(), -1);
        Check.due("lacking()", x.lacking(), -1);
        Check.due("put(0, 5)", x.put(0, 5), false);
        Check.due("undo()", x.undo(), -1);
        Check.due("fault()", x.fault(), 0);
        Check.due("tale()", x.tale(), false);
        Check.due("end(0)", x.end(0), true);
        Check.due("end(1)", x.end(1), false);
    }

    private static void feedOrder() {
        Check.sentence("Twenty bytes more come to the TAPE (of each number the highest first;");
        TaleSums x = new TaleSums();
        Check.due("twenty bytes", x.feed(0x686f7720, 0x6d616e79, 0x206e7574, 0x73206861, 0x7320616e), 20);
        Check.due("two more", x.feed(0x6e3f2020, 0, 0, 0, 0), 24);
        Check.due("fault()", x.fault(), -1);
        TaleSums high = new TaleSums();
        Check.due("bytes of 255", high.feed(-1, -1, -1, -1, -1), 20);
        Check.due("fault()", high.fault(), 0);
        TaleSums least = new TaleSums();
        Check.due("a byte of 128", least.feed(0x686f7720, LEAST, 0, 0, 0), 5);
        Check.due("fault()", least.fault(), 4);
        Check.due("bytes of 127 and 255", least.feed(MOST, 0, 0, 0, 0), 9);
    }

    private static void feedZeros() {
        Check.sentence("bytes of 0 are left out): how many it has.");
        TaleSums x = new TaleSums();
        Check.due("none at all", x.feed(0, 0, 0, 0, 0), 0);
        int made = 0;
        for (int i = 0; i < ASK.length(); i++) {
            int[] five = new int[5];
            five[i % 5] = ASK.charAt(i) << 8 * (i % 4);
            made++;
            Check.due("one alone", x.feed(five[0], five[1], five[2], five[3], five[4]), made);
        }
        Check.due("fault()", x.fault(), -1);
        Check.due("zeros between", x.feed(0x20002000, 0x00200020, 0x20000020, 0x00202000, 0), made + 8);
        Check.due("fault()", x.fault(), -1);
    }

    private static TaleSums blanks(int many) {
        TaleSums x = new TaleSums();
        Check.due("feed of blanks", Check.feed(x, " ".repeat(many)), many);
        return x;
    }

    private static void feedTooMany() {
        Check.sentence("NONE: more than 400.");
        TaleSums full = blanks(400);
        Check.due("one more", full.feed(32, 0, 0, 0, 0), -1);
        Check.due("twenty more", full.feed(-1, -1, -1, -1, -1), -1);
        for (int one = 1; one <= 255; one++) {
            Check.due("a byte of " + one, full.feed(one << 8 * (one % 4), 0, 0, 0, 0), -1);
        }
        Check.due("none more", full.feed(0, 0, 0, 0, 0), 400);
        Check.due("count(0)", full.count(0), 400);
        TaleSums almost = blanks(399);
        Check.due("two more", almost.feed(32, 0, 0, 0, 32), -1);
        Check.due("none of them came", almost.count(0), 399);
        Check.due("one more", almost.feed(0, 0, 0, 0, '!'), 400);
        Check.due("fault()", almost.fault(), 399);
        TaleSums short20 = blanks(381);
        Check.due("twenty more", short20.feed(-1, -1, -1, -1, -1), -1);
        Check.due("nineteen more", short20.feed(-1, -1, -1, -1, -256), 400);
        Check.due("fault()", short20.fault(), 381);
        TaleSums fits = blanks(380);
        Check.due("twenty more", fits.feed(-1, -1, -1, -1, -1), 400);
    }

    private static void end() {
        Check.sentence("The TAPE has its first n bytes alone.");
        for (int n = 0; n <= 22; n++) {
            TaleSums x = new TaleSums();
            Check.feed(x, ASK);
            Check.due("end(" + n + ")", x.end(n), true);
            Check.due("count(0)", x.count(0), n);
            Check.due("fault() of the first " + n, x.fault(), Check.faultOf(ASK.substring(0, n)));
            Check.feed(x, ASK.substring(n));
            Check.due("fault() of the first ones and the others again", x.fault(), -1);
        }
        TaleSums row = new TaleSums();
        Check.feed(row, "howx");
        row.end(3);
        Check.due("a word's end is cut off", row.fault(), 3);
        TaleSums full = blanks(400);
        Check.due("end(400)", full.end(400), true);
        Check.due("end(399)", full.end(399), true);
        Check.due("room for one", full.feed(32, 0, 0, 0, 0), 400);
        Check.due("end(0)", full.end(0), true);
        Check.due("fault()", full.fault(), 0);
        Check.due("end(0) again", full.end(0), true);
    }

    private static void endRefused() {
        Check.sentence("False: n.");
        TaleSums empty = new TaleSums();
        TaleSums some = new TaleSums();
        Check.feed(some, ASK);
        TaleSums full = blanks(400);
        int[][] refused = {{-1, -1, -1}, {1, 23, 401}, {2, 24, 420}, {400, 400, 402}, {LEAST, LEAST, LEAST},
            {MOST, MOST, MOST}};
        for (int[] n : refused) {
            Check.due("end(" + n[0] + ") of none", empty.end(n[0]), false);
            Check.due("end(" + n[1] + ") of 22", some.end(n[1]), false);
            Check.due("end(" + n[2] + ") of 400", full.end(n[2]), false);
        }
        Check.due("count(0) of none", empty.count(0), 0);
        Check.due("fault() of 22", some.fault(), -1);
        Check.due("count(0) of 400", full.count(0), 400);
        Check.due("what is gone does not come back", some.end(20) && !some.end(21), true);
    }

    private static void fault() {
        Check.sentence("The FAULT of the TAPE; NONE.");
        TaleSums x = new TaleSums();
        Check.due("empty", x.fault(), 0);
        Check.feed(x, ASK);
        Check.due("none", x.fault(), -1);
        Check.due("none again", x.fault(), -1);
        Check.feed(x, "!");
        Check.due("at the last byte", x.fault(), 22);
        Check.due("again", x.fault(), 22);
        x.end(21);
        Check.due("at the end", x.fault(), 21);
        Check.due("the tape is not read off", x.count(0), 21);
        Check.due("no tale by it", x.count(2), 0);
    }

    private static void tale() {
        Check.sentence("The TAPE (empty then) is the TALE.");
        TaleSums x = new TaleSums();
        Check.feed(x, "ann has 4 nuts." + ASK);
        Check.due("tale()", x.tale(), true);
        Check.due("count(0)", x.count(0), 0);
        Check.due("fault()", x.fault(), 0);
        Check.due("end(1)", x.end(1), false);
        Check.due("all the room again", Check.feed(x, " ".repeat(400)), 400);
        Check.answers(x, 4, 1);
        x.end(0);
        x.put(0, 7);
        Check.feed(x, ASK);
        Check.due("another tale()", x.tale(), true);
        Check.due("sentences()", x.sentences(), 0);
        Check.answers(x, UNTOLD, UNTOLD);
        Check.due("nothing to take back", x.undo(), -1);
        Check.due("count(4)", x.count(4), 0);
        Check.feed(x, "ann has 4 nuts." + ASK);
        Check.due("the first one again", x.tale(), true);
        Check.answers(x, 4, 1);
        String moves = SORTS[5] + SORTS[6] + SORTS[7] + SORTS[4] + SORTS[3];
        String[] earlier = {moves + moves + ASK, moves + moves, moves + "how many eggs have gus and hal?", moves + "zed",
            SORTS[0] + SORTS[0] + SORTS[6] + SORTS[1] + ASK, SORTS[0] + SORTS[7] + "zed"};
        String[] later = {"ann has 3 nuts.ann eats 2 nuts." + ASK, "ann eats 2 nuts.ann and bob have 7 nuts." + ASK, ASK};
        for (String one : earlier) {
            for (String other : later) {
                nothingIsLeft(one, other);
            }
        }
    }

    /** Earlier texts, told or read for their FAULT, leave nothing in a TALE. */
    private static void nothingIsLeft(String earlier, String later) {
        TaleSums x = new TaleSums();
        for (int i = 0; i < 2; i++) {
            x.end(0);
            Check.feed(x, earlier);
            x.fault();
            x.fault();
            x.tale();
        }
        x.end(0);
        Check.feed(x, later);
        Check.due("tale()", x.tale(), true);
        Shot.same("an earlier text", new Shot(Check.told(later)), new Shot(x));
    }

    private static void taleRefused() {
        Check.sentence("False: a FAULT.");
        TaleSums x = Check.told("ann has 4 nuts." + ASK);
        x.put(0, 6);
        Check.due("an empty tape", x.tale(), false);
        String[] faulty = {" ", "bob", "bob has 1 figs.", "how many figs has bob", "how many figs has bob??"};
        for (String text : faulty) {
            x.end(0);
            Check.feed(x, text);
            Check.due("tale() of " + text, x.tale(), false);
            Check.due("the tape stays", x.count(0), text.length());
            Check.due("the tale stays", x.sentence(0, 3), 0);
            Check.answers(x, 6, 1);
            Check.due("count(4)", x.count(4), 1);
        }
        x.end(22);
        Check.due("without its fault", x.tale(), true);
        Check.due("question(1)", x.question(1), 1);
    }

    private static void sentences() {
        Check.sentence("How many SENTENCES (0 without a TALE).");
        TaleSums x = new TaleSums();
        Check.due("without a tale", x.sentences(), 0);
        Check.feed(x, SORTS[0].repeat(10) + ASK);
        Check.due("on the tape alone", x.sentences(), 0);
        x.fault();
        Check.due("read for its fault alone", x.sentences(), 0);
        x.tale();
        Check.due("ten", x.sentences(), 10);
        Check.due("one", Check.told(SORTS[7] + ASK).sentences(), 1);
        Check.due("none", Check.told(ASK).sentences(), 0);
    }

    private static void sentence() {
        Check.sentence("Of a SENTENCE: 0 its sort, 1 the first NAME (0: ann ..), 2 the second one (NONE), 3 its UNIT "
                + "(0: nuts ..), 4 its NUMBER, 5 the STAGE that is as it stands there, 6 the first byte of its first WORD.");
        for (int sort = 0; sort < 8; sort++) {
            String first = SORTS[sort].replace("ann", "hal").replace("nuts", "eggs").replace("bob", "gus");
            String second = SORTS[sort].replace("5", "2").replace("bob", "hal");
            TaleSums x = Check.told("\n " + first + "  " + second + ASK);
            boolean pair = sort >= 1 && sort <= 5;
            int[][] due = {{sort, 7, pair ? 6 : -1, 3, 5, 0, 2},
                {sort, 0, pair ? 7 : -1, 0, 2, sort >= 5 ? 1 : 0, 4 + first.length()}};
            for (int i = 0; i < 2; i++) {
                for (int what = 0; what < 7; what++) {
                    Check.due("sentence(" + i + ", " + what + ") of sort " + sort, x.sentence(i, what), due[i][what]);
                }
            }
        }
        TaleSums ten = Check.told(SORTS[6].repeat(10) + ASK);
        Check.due("the last one's stage", ten.sentence(9, 5), 9);
        Check.due("the last one's place", ten.sentence(9, 6), 9L * 16);
        Check.due("put", ten.put(9, 999), true);
        Check.due("its number now", ten.sentence(9, 4), 999);
        Check.due("its place stays", ten.sentence(9, 6), 9L * 16);
    }

    private static void sentenceRefused() {
        Check.sentence("NoSuchElementException: there is none such, what.");
        TaleSums none = new TaleSums();
        TaleSums bare = Check.told(ASK);
        TaleSums one = Check.told(SORTS[0] + ASK);
        TaleSums ten = Check.told(SORTS[0].repeat(10) + ASK);
        for (int what = -1; what <= 7; what++) {
            Check.throwsNoSuch("sentence(0, " + what + ") without a tale", none, 0, what);
            Check.throwsNoSuch("sentence(0, " + what + ") of none", bare, 0, what);
        }
        for (int i : new int[] {-1, 1, 2, 9, 10, LEAST, MOST}) {
            Check.throwsNoSuch("sentence(" + i + ", 0) of one", one, i, 0);
        }
        for (int i : new int[] {-1, 10, 11, LEAST, MOST}) {
            Check.throwsNoSuch("sentence(" + i + ", 0) of ten", ten, i, 0);
        }
        for (int what : new int[] {-1, 7, 8, LEAST, MOST}) {
            Check.throwsNoSuch("sentence(0, " + what + ")", one, 0, what);
            Check.throwsNoSuch("sentence(9, " + what + ")", ten, 9, what);
            Check.throwsNoSuch("sentence(-1, " + what + ")", ten, -1, what);
        }
        Check.due("the last one there is", ten.sentence(9, 6), 135);
    }

    private static void questionParts(String text, int[] due) {
        TaleSums x = Check.told(text);
        for (int what = 0; what < 5; what++) {
            Check.due("question(" + what + ") of " + text, x.question(what), due[what]);
        }
    }

    private static void question() {
        Check.sentence("Of the QUESTION: 0 sort (0 has, 1 have, 2 had), 1, 2 NAMES (NONE), 3 UNIT, 4 its STAGE.");
        questionParts("how many nuts has ann?", new int[] {0, 0, -1, 0, 0});
        questionParts("how many eggs have hal and ann?", new int[] {1, 7, 0, 3, 0});
        questionParts("how many figs had hal?", new int[] {2, 7, -1, 1, 0});
        String ten = SORTS[7].repeat(10);
        questionParts(ten + "how many pies has hal?", new int[] {0, 7, -1, 2, 10});
        questionParts(ten + "how many eggs have gus and hal?", new int[] {1, 6, 7, 3, 10});
        questionParts(ten + "how many nuts had ann?", new int[] {2, 0, -1, 0, 0});
        TaleSums x = Check.told("how many eggs have gus and hal?");
        Check.feed(x, ASK);
        x.tale();
        Check.due("no second name of an earlier tale", x.question(2), -1);
    }

    private static void questionRefused() {
        Check.sentence("NONE without a TALE, or for others.");
        TaleSums none = new TaleSums();
        Check.feed(none, ASK);
        none.fault();
        TaleSums told = Check.told(ASK);
        for (int what = 0; what < 5; what++) {
            Check.due("question(" + what + ") without a tale", none.question(what), -1);
        }
        for (int what : new int[] {-1, 5, 6, LEAST, MOST}) {
            Check.due("question(" + what + ")", told.question(what), -1);
            Check.due("question(" + what + ") without a tale", none.question(what), -1);
        }
    }

    private static void quarrel() {
        Check.sentence("The SENTENCE that brings the QUARREL. NONE: there is none.");
        Check.due("without a tale", new TaleSums().quarrel(), -1);
        Check.due("without a fact", Check.told(ASK).quarrel(), -1);
        Check.due("by one fact", Check.told(SORTS[0] + ASK).quarrel(), -1);
        TaleSums x = Check.told(SORTS[0].repeat(10) + ASK);
        Check.due("by facts alike", x.quarrel(), -1);
        for (int i = 9; i >= 1; i--) {
            x.put(i, 4);
            Check.due("quarrel()", x.quarrel(), i);
        }
        x.put(0, 4);
        Check.due("all alike again", x.quarrel(), -1);
        x.put(0, 5);
        Check.due("the second one, by the first", x.quarrel(), 1);
        x.undo();
        Check.due("taken back", x.quarrel(), -1);
    }

    private static void answer() {
        Check.sentence("ANSWER. UNTOLD: there is none, what.");
        TaleSums x = Check.told("ann has 5 nuts.ann has 2 times as many nuts as bob.how many nuts has bob?");
        Check.answers(x, 5, 2);
        for (int what : new int[] {-1, 2, 3, LEAST, MOST}) {
            Check.due("answer(" + what + ")", x.answer(what), UNTOLD);
        }
        Check.answers(Check.told(ASK), UNTOLD, UNTOLD);
        Check.answers(Check.told("ann has 5 nuts.bob has 1 figs.bob has 2 figs." + ASK), UNTOLD, UNTOLD);
        Check.answers(new TaleSums(), UNTOLD, UNTOLD);
        Check.answers(Check.told("ann has 0 nuts." + ASK), 0, 1);
    }

    private static void amountOf(TaleSums x, int[] of, long want) {
        Check.due("amount(" + of[0] + ", " + of[1] + ", " + of[2] + ", " + of[3] + ")",
                x.amount(of[0], of[1], of[2], of[3]), want);
    }

    private static void amount() {
        Check.sentence("An AMOUNT that is SETTLED by all FACTS. UNTOLD: it is not, no such one, a QUARREL, what.");
        TaleSums x = Check.told("ann has 5 nuts.hal has 6 eggs.hal buys 1 eggs.fay and gus have 2 eggs." + ASK);
        int[][] good = {{0, 0, 0, 0, 5}, {0, 0, 1, 0, 5}, {0, 0, 1, 1, 1}, {7, 3, 0, 0, 6}, {7, 3, 1, 0, 7}, {7, 3, 1, 1, 1}};
        for (int[] call : good) {
            amountOf(x, call, call[4]);
        }
        int[] wild = {LEAST, -1, MOST};
        for (int one : wild) {
            amountOf(x, new int[] {one, 0, 0, 0}, UNTOLD);
            amountOf(x, new int[] {0, one, 0, 0}, UNTOLD);
            amountOf(x, new int[] {0, 0, one, 0}, UNTOLD);
            amountOf(x, new int[] {0, 0, 0, one}, UNTOLD);
        }
        int[][] none = {{8, 0, 0, 0}, {8, 3, 0, 0}, {0, 4, 0, 0}, {7, 4, 0, 0}, {0, 0, 2, 0}, {7, 3, 2, 0}, {0, 0, 0, 2},
            {7, 3, 1, 2}, {-1, 1, 0, 0}, {8, -1, 0, 0}};
        int[][] open = {{5, 3, 0, 0}, {6, 3, 1, 0}, {0, 1, 0, 0}, {1, 0, 0, 0}, {7, 2, 0, 1}, {6, 3, 0, 1}};
        for (int[] call : none) {
            amountOf(x, call, UNTOLD);
        }
        for (int[] call : open) {
            amountOf(x, call, UNTOLD);
        }
        TaleSums quarrel = Check.told("ann has 5 nuts.bob has 1 figs.bob has 2 figs." + ASK);
        amountOf(quarrel, new int[] {0, 0, 0, 0}, UNTOLD);
        amountOf(quarrel, new int[] {0, 0, 0, 1}, UNTOLD);
        amountOf(quarrel, new int[] {1, 1, 0, 0}, UNTOLD);
        quarrel.put(2, 1);
        amountOf(quarrel, new int[] {0, 0, 0, 0}, 5);
        amountOf(new TaleSums(), new int[] {0, 0, 0, 0}, UNTOLD);
    }

    private static void idle() {
        Check.sentence("IDLE FACTS, as bits.");
        Check.due("without a tale", new TaleSums().idle(), 0);
        Check.due("without a fact", Check.told(ASK).idle(), 0);
        Check.due("bits 0 and 9", Check.told("bob has 1 nuts.ann has 1 nuts." + SORTS[6].replace('5', '0').repeat(7)
                + "hal has 1 eggs." + ASK).idle(), 513);
        TaleSums x = Check.told(SORTS[0].repeat(10) + ASK);
        Check.due("all ten", x.idle(), 1023);
        x.put(4, 6);
        Check.due("with a quarrel", x.idle(), 0);
        x.undo();
        Check.due("without it", x.idle(), 1023);
    }

    private static void enough() {
        Check.sentence("ENOUGH, as bits. NONE: there is no ANSWER.");
        Check.due("without a tale", new TaleSums().enough(), -1);
        Check.due("without a fact", Check.told(ASK).enough(), -1);
        Check.due("not settled", Check.told("bob has 1 nuts." + ASK).enough(), -1);
        Check.due("bit 0", Check.told(SORTS[0] + ASK).enough(), 1);
        Check.due("bit 9", Check.told(SORTS[6].repeat(9) + SORTS[0] + ASK).enough(), 512);
        TaleSums x = Check.told("hal has 1 eggs.hal has 1 eggs." + SORTS[0] + ASK);
        Check.due("bit 2", x.enough(), 4);
        x.put(0, 2);
        Check.due("with a quarrel of another unit", x.enough(), -1);
        x.undo();
        Check.due("without it", x.enough(), 4);
    }

    private static void lacking() {
        Check.sentence("LACKING: the NAME. NONE: none.");
        Check.due("without a tale", new TaleSums().lacking(), -1);
        Check.due("the first name", Check.told(ASK).lacking(), 0);
        Check.due("the last name", Check.told("how many eggs has hal?").lacking(), 7);
        Check.due("an answer", Check.told(SORTS[0] + ASK).lacking(), -1);
        Check.due("no one name", Check.told("how many eggs have ann and hal?").lacking(), -1);
        TaleSums x = Check.told("bob has 1 figs.bob has 1 figs." + ASK);
        Check.due("before a quarrel", x.lacking(), 0);
        x.put(1, 2);
        Check.due("with a quarrel", x.lacking(), -1);
        x.undo();
        Check.due("behind it", x.lacking(), 0);
    }

    private static void strange() {
        Check.sentence("Of what is STRANGE: 0 the NAME, 1 the UNIT, 2 the STAGE. NONE: nothing, or for others.");
        TaleSums x = Check.told("hal has 1 eggs.hal eats 1 eggs.hal eats 1 eggs." + ASK);
        int[] due = {7, 3, 2};
        for (int what = 0; what < 3; what++) {
            Check.due("strange(" + what + ")", x.strange(what), due[what]);
            Check.due("strange(" + what + ") without a tale", new TaleSums().strange(what), -1);
            Check.due("strange(" + what + ") of nothing", Check.told("ann has 0 nuts." + ASK).strange(what), -1);
        }
        for (int what : new int[] {-1, 3, 4, LEAST, MOST}) {
            Check.due("strange(" + what + ")", x.strange(what), -1);
        }
        x.put(0, 2);
        Check.due("nothing", x.strange(0), -1);
        x.put(0, 0);
        Check.due("a stage earlier", x.strange(2), 1);
    }

    private static void put() {
        Check.sentence("The NUMBER of a SENTENCE is another one.");
        long[] answers = {999, 1010, -988, 99, 988, -988, 1010, -988};
        for (int sort = 0; sort < 8; sort++) {
            String ahead = sort < 5 ? "bob has 11 nuts." : "ann has 11 nuts.";
            TaleSums x = Check.told(ahead + SORTS[sort] + ASK);
            int number = sort == 3 ? 9 : 999;
            Check.due("put(1, " + number + ") of sort " + sort, x.put(1, number), true);
            Check.due("its number", x.sentence(1, 4), number);
            Check.answers(x, answers[sort], 1);
            Check.due("its sort stays", x.sentence(1, 0), sort);
            Check.due("the other one's number stays", x.sentence(0, 4), 11);
            Check.due("count(4)", x.count(4), 1);
            Check.due("the same one again", x.put(1, number), true);
        }
        String round = "ann has 2 times as many nuts as bob.ann has 3 times as many nuts as bob.ann has 0 nuts."
                + "bob eats 1 nuts.how many nuts has bob?";
        String[][] numbers = {{"3 times", "2 times"}, {"2 times", "3 times"}, {"2 times", "9 times"}, {"has 0", "has 8"},
            {"eats 1", "eats 7"}};
        int[][] puts = {{1, 2}, {0, 3}, {0, 9}, {2, 8}, {3, 7}};
        for (int i = 0; i < puts.length; i++) {
            asIfWritten(round, round.replace(numbers[i][0], numbers[i][1]), puts[i]);
        }
    }

    /** All answers are those of the TALE that has the other NUMBER written, and undo() brings the first ones again. */
    private static void asIfWritten(String text, String other, int[] put) {
        TaleSums x = Check.told(text);
        TaleSums written = Check.told(other);
        Shot before = new Shot(x);
        Check.due("put", x.put(put[0], put[1]), true);
        Check.due("put of the same", written.put(put[0], put[1]), true);
        Shot.same("the number written, not put,", new Shot(written), new Shot(x));
        Check.due("undo()", x.undo(), put[0]);
        Shot.same("what is taken back", before, new Shot(x));
    }

    private static void putRefused() {
        Check.sentence("False: no such one, out of its bounds.");
        StringBuilder all = new StringBuilder();
        for (String sentence : SORTS) {
            all.append(sentence);
        }
        TaleSums x = Check.told(all + "how many eggs has hal?");
        for (int sort = 0; sort < 8; sort++) {
            int low = sort == 3 ? 2 : 0;
            int high = sort == 3 ? 9 : 999;
            for (int number : new int[] {low - 1, high + 1, LEAST, MOST, -1, 1000}) {
                Check.due("put(" + sort + ", " + number + ")", x.put(sort, number), false);
            }
            Check.due("its number stays", x.sentence(sort, 4), 5);
            Check.due("put(" + sort + ", " + low + ")", x.put(sort, low), true);
            Check.due("its number", x.sentence(sort, 4), low);
            Check.due("put(" + sort + ", " + high + ")", x.put(sort, high), true);
            Check.due("its number", x.sentence(sort, 4), high);
        }
        Check.due("count(4)", x.count(4), 16);
        for (int i : new int[] {-1, 8, 9, 10, LEAST, MOST}) {
            Check.due("put(" + i + ", 5)", x.put(i, 5), false);
        }
        Check.due("count(4)", x.count(4), 16);
        Check.due("put() without a tale", new TaleSums().put(0, 5), false);
        Check.due("put() without sentences", Check.told(ASK).put(0, 5), false);
        Check.due("put() behind ten", Check.told(SORTS[0].repeat(10) + ASK).put(10, 5), false);
        Check.due("put() of the tenth", Check.told(SORTS[0].repeat(10) + ASK).put(9, 5), true);
    }

    private static void undo() {
        Check.sentence("A SENTENCE's NUMBER told last by put() that was not taken back is as it was ahead: which. NONE: none");
        Check.due("without a tale", new TaleSums().undo(), -1);
        TaleSums x = Check.told("ann has 1 nuts.bob has 1 nuts.how many nuts have ann and bob?");
        Check.due("without a put()", x.undo(), -1);
        x.put(1, 10);
        x.put(0, 20);
        x.put(0, 20);
        x.put(0, 1000);
        x.put(2, 5);
        Check.answers(x, 30, 1);
        Check.due("the same number", x.undo(), 0);
        Check.answers(x, 30, 1);
        Check.due("the latest", x.undo(), 0);
        Check.answers(x, 11, 1);
        x.put(0, 7);
        Check.due("a new one", x.undo(), 0);
        Check.due("as it was ahead", x.sentence(0, 4), 1);
        Check.due("the first one", x.undo(), 1);
        Check.answers(x, 2, 1);
        Check.due("none left", x.undo(), -1);
        Check.due("none left again", x.undo(), -1);
        Check.answers(x, 2, 1);
    }

    /** Some puts and then as many undos as there are: the latest fifty, however many went ahead. */
    private static void undoLatest() {
        Check.sentence("(the latest 50)");
        for (int puts : new int[] {49, 50, 51, 99, 100, 101, 150, 200}) {
            TaleSums x = Check.told("ann has 0 nuts.bob has 0 nuts." + ASK);
            for (int i = 1; i <= puts; i++) {
                x.put(i % 2, i);
            }
            int can = Math.min(puts, 50);
            Check.due("count(4) after " + puts, x.count(4), can);
            for (int i = puts; i > puts - can; i--) {
                Check.due("undo() of put " + i, x.undo(), i % 2);
                Check.due("the number ahead of put " + i, x.sentence(i % 2, 4), Math.max(0, i - 2));
            }
            Check.due("undo() after " + puts, x.undo(), -1);
            Check.due("count(4)", x.count(4), 0);
            Check.due("the older ones stay", x.sentence(0, 4) + x.sentence(1, 4), puts <= 50 ? 0 : 2L * (puts - 50) - 1);
        }
        TaleSums x = Check.told("ann has 0 nuts." + ASK);
        for (int round = 0; round < 9; round++) {
            for (int i = 0; i < 20; i++) {
                x.put(0, 20 * round + i);
            }
            for (int i = 0; i < 10; i++) {
                Check.due("undo()", x.undo(), 0);
            }
            Check.due("left of round " + round, x.sentence(0, 4), 20L * round + 9);
            Check.due("count(4)", x.count(4), Math.min(10 * (round + 1), 40));
        }
    }

    private static void count() {
        Check.sentence("0 bytes of the TAPE, 1 FACTS, 2 STAGES (the last one and 1; 0 without a TALE), 3 how many AMOUNTS of "
                + "NAMES and UNITS at STAGE 0 are SETTLED (not with a QUARREL), 4 how often undo() can.");
        counted(new TaleSums(), new int[] {0, 0, 0, 0, 0});
        TaleSums tape = new TaleSums();
        Check.feed(tape, SORTS[0] + ASK);
        counted(tape, new int[] {37, 0, 0, 0, 0});
        counted(blanks(400), new int[] {400, 0, 0, 0, 0});
        counted(Check.told(ASK), new int[] {0, 0, 1, 0, 0});
        counted(Check.told(SORTS[0].repeat(10) + ASK), new int[] {0, 10, 1, 1, 0});
        counted(Check.told(SORTS[7].repeat(10) + ASK), new int[] {0, 0, 11, 0, 0});
        StringBuilder many = new StringBuilder();
        for (int name = 0; name < 8; name++) {
            many.append(Check.NAMES[name]).append(" has 1 nuts.");
        }
        counted(Check.told(many + "ann has 1 eggs.hal has 1 pies." + ASK), new int[] {0, 10, 1, 10, 0});
        TaleSums x = Check.told("ann buys 1 nuts.ann has 1 nuts.ann and bob have 1 nuts.cat and dan have 1 nuts.ann has 1 nuts."
                + ASK);
        counted(x, new int[] {0, 4, 2, 2, 0});
        x.put(4, 2);
        counted(x, new int[] {0, 4, 2, 0, 1});
        x.put(1, 2);
        counted(x, new int[] {0, 4, 2, 2, 2});
        x.put(1, -2);
        counted(x, new int[] {0, 4, 2, 2, 2});
        x.undo();
        counted(x, new int[] {0, 4, 2, 0, 1});
    }

    private static void counted(TaleSums x, int[] due) {
        for (int what = 0; what < 5; what++) {
            Check.due("count(" + what + ")", x.count(what), due[what]);
        }
    }

    private static void countOthers() {
        Check.sentence("NONE for others.");
        TaleSums none = new TaleSums();
        TaleSums x = Check.told(SORTS[0] + ASK);
        for (int what : new int[] {-1, 5, 6, LEAST, MOST}) {
            Check.due("count(" + what + ")", x.count(what), -1);
            Check.due("count(" + what + ") without a tale", none.count(what), -1);
        }
    }

    private static void refused() {
        Check.sentence("What is refused answers as told and changes nothing.");
        for (int call = 0; call < 20; call++) {
            unchangedBy(call, new TaleSums(), "");
            unchangedBy(call, new TaleSums(), "ann has 1 nuts.how many nuts has ann");
            TaleSums told = Check.told("ann has 5 nuts.ann has 2 times as many nuts as bob.ann eats 6 nuts." + ASK);
            if (call != 19) {
                told.put(0, 3);
                told.put(1, 4);
            }
            unchangedBy(call, told, "cat has 1 nuts." + " ".repeat(349) + "how many nuts has");
            TaleSums quarrel = Check.told("ann has 5 nuts.ann has 2 times as many nuts as bob.ann has 6 nuts." + ASK);
            if (call != 19) {
                quarrel.put(2, 7);
            }
            unchangedBy(call, quarrel, " ".repeat(381));
        }
    }

    private static void unchangedBy(int call, TaleSums x, String tape) {
        Check.feed(x, tape);
        boolean fed = call == 0 && tape.length() <= 380;
        if (fed || call == 19 && x.count(4) > 0) {
            return;
        }
        Shot before = new Shot(x);
        Check.due("refusal " + call, isRefused(call, x, tape.length()), true);
        Shot.same("refusal " + call, before, new Shot(x));
        boolean whole = tape.endsWith("has") || tape.endsWith("ann");
        if (whole) {
            Check.feed(x, tape.endsWith("has") ? " cat?" : "?");
            Check.due("the tape is as it was", x.tale(), true);
            Check.answers(x, 1, 1);
        }
    }

    private static boolean isRefused(int call, TaleSums x, int tape) {
        switch (call) {
            case 0: return x.feed(-1, -1, -1, -1, -1) == -1;
            case 1: return !x.end(-1);
            case 2: return !x.end(tape + 1);
            case 3: return !x.tale();
            case 4: return throwsNoSuch(x, -1, 0);
            case 5: return throwsNoSuch(x, 3, 4);
            case 6: return throwsNoSuch(x, 0, 7);
            case 7: return x.question(5) == -1;
            case 8: return x.answer(2) == UNTOLD;
            case 9: return x.amount(8, 0, 0, 0) == UNTOLD;
            case 10: return x.amount(0, 4, 0, 0) == UNTOLD;
            case 11: return x.amount(0, 0, 2, 0) == UNTOLD;
            case 12: return x.amount(0, 0, 0, 2) == UNTOLD;
            case 13: return x.strange(3) == -1;
            case 14: return x.count(5) == -1;
            case 15: return !x.put(3, 5);
            case 16: return !x.put(0, 1000);
            case 17: return !x.put(0, -1);
            case 18: return !x.put(1, 1) && !x.put(1, 10);
            default: return x.undo() == -1;
        }
    }

    private static boolean throwsNoSuch(TaleSums x, int i, int what) {
        try {
            x.sentence(i, what);
            return false;
        } catch (NoSuchElementException e) {
            return true;
        }
    }
}
