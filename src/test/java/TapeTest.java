/** Promises 1 to 4: a new object, feed, end, fault. */
public final class TapeTest {
    private static final String TEN = "ann has 1 nuts.".repeat(10);
    private static final String ASK = "how many nuts has ann?";

    public static void main(String[] args) {
        newObject();
        feeding();
        ending();
        faultsOfSentences();
        faultsOfWords();
        faultsOfQuestions();
        Check.finish("TapeTest");
    }

    private static void newObject() {
        TaleSums x = new TaleSums();
        Check.due("sentences()", x.sentences(), 0);
        Check.throwsNoSuch("sentence(0, 0)", x, 0, 0);
        for (int what = -1; what <= 6; what++) {
            Check.due("question", x.question(what), -1);
            Check.due("answer", x.answer(what), TaleSums.UNTOLD);
            Check.due("amount", x.amount(0, 0, 0, what), TaleSums.UNTOLD);
            Check.due("strange", x.strange(what), -1);
            Check.due("count", x.count(what), what >= 0 && what <= 4 ? 0 : -1);
        }
        Check.due("quarrel()", x.quarrel(), -1);
        Check.due("idle()", x.idle(), 0);
        Check.due("enough()", x.enough(), -1);
        Check.due("lacking()", x.lacking(), -1);
        Check.due("put(0, 1)", x.put(0, 1), false);
        Check.due("undo()", x.undo(), -1);
        Check.due("fault()", x.fault(), 0);
        Check.due("tale()", x.tale(), false);
    }

    private static void feeding() {
        TaleSums x = new TaleSums();
        Check.due("zeros alone", x.feed(0, 0, 0, 0, 0), 0);
        Check.due("highest first", x.feed('h' << 24, 'o' << 16, 'w' << 8, ' ', 'z'), 5);
        Check.due("fault()", x.fault(), 4);
        Check.due("cut", x.end(4), true);
        Check.due("the rest", Check.feed(x, ASK.substring(4)), ASK.length());
        Check.due("fault()", x.fault(), -1);
        Check.due("bytes above 127 count", x.feed(-1, 0x80000000, 0, 0, 0), ASK.length() + 5);
        Check.due("fault()", x.fault(), ASK.length());

        TaleSums full = new TaleSums();
        for (int i = 1; i <= 20; i++) {
            int four = 0x20202020;
            Check.due("feed", full.feed(four, four, four, four, four), 20L * i);
        }
        Check.due("beyond 400", full.feed(32, 0, 0, 0, 0), -1);
        Check.due("nothing changed", full.count(0), 400);
        Check.due("no bytes more", full.feed(0, 0, 0, 0, 0), 400);
        Check.due("end(398)", full.end(398), true);
        Check.due("three more", full.feed(32, 0x20202000, 0, 0, 0), -1);
        Check.due("refused whole", full.count(0), 398);
        Check.due("two more", full.feed(0x00200020, 0, 0, 0, 0), 400);
    }

    private static void ending() {
        TaleSums x = new TaleSums();
        Check.due("end(1)", x.end(1), false);
        Check.due("end(-1)", x.end(-1), false);
        Check.feed(x, ASK);
        Check.due("end behind", x.end(ASK.length() + 1), false);
        Check.due("end least", x.end(Integer.MIN_VALUE), false);
        Check.due("unchanged", x.count(0), ASK.length());
        Check.due("end at the end", x.end(ASK.length()), true);
        Check.due("unchanged", x.fault(), -1);
        Check.due("end(8)", x.end(8), true);
        Check.due("count(0)", x.count(0), 8);
        Check.due("fault()", x.fault(), 8);
        Check.due("end(0)", x.end(0), true);
        Check.due("count(0)", x.count(0), 0);
    }

    private static void fault(String text, int want) {
        Check.due("fault() of " + text, Check.faultOf(text), want);
    }

    private static void faultsOfSentences() {
        fault(ASK, -1);
        fault("ann has 5 nuts." + ASK, -1);
        fault("ann has 5 more nuts than bob." + ASK, -1);
        fault("ann has 5 fewer nuts than bob." + ASK, -1);
        fault("ann has 5 times as many nuts as bob." + ASK, -1);
        fault("ann and bob have 5 nuts." + ASK, -1);
        fault("ann gives 5 nuts to bob." + ASK, -1);
        fault("ann buys 5 nuts." + ASK, -1);
        fault("ann eats 5 nuts." + ASK, -1);
        fault("ann has 5 fewer nuts than ann.", 26);
        fault("ann has 5 times as many nuts as ann.", 32);
        fault("ann and ann have 5 nuts.", 8);
        fault("ann gives 5 nuts to ann.", 20);
        fault("ann have 5 nuts.", 4);
        fault("ann and bob has 5 nuts.", 12);
        fault("ann has 5 more than bob.", 15);
        fault("ann buys 5 more nuts.", 11);
        fault("ann has nuts.", 8);
        fault("ann has 1 times as many nuts as bob.", 10);
        fault("ann has 0 times as many nuts as bob.", 10);
        fault("ann has 10 times as many nuts as bob.", 11);
        fault("ann has 002 times as many nuts as bob." + ASK, -1);
        fault("ann gives 5 nuts bob.", 17);
        fault("ann gives 5 nuts to bob", 23);
        fault("ann has 5 times many", 16);
        fault(TEN + ASK, -1);
        fault(TEN + "ann has 1 nuts." + ASK, 150);
        fault(TEN + " bob", 151);
        fault(TEN, 150);
    }

    private static void faultsOfWords() {
        fault("", 0);
        fault("  ", 2);
        fault("\n ann\nhas 5 nuts\n.\n" + ASK + "\n ", -1);
        fault("ann has5 nuts." + ASK, -1);
        fault("ann has 5nuts." + ASK, 8);
        fault("annhas 5 nuts.", 0);
        fault("ann has 999 nuts." + ASK, -1);
        fault("ann has 000 nuts." + ASK, -1);
        fault("ann has 0000 nuts." + ASK, 8);
        fault("ann has 5 nut.", 10);
        fault("ann has 5 nutss.", 10);
        fault("Ann has 5 nuts.", 0);
        fault("ann has -5 nuts.", 8);
        fault("ann\thas 5 nuts.", 3);
        fault("ann\rhas 5 nuts.", 3);
        fault("ann has " + (char) 233, 8);
        fault("ann has 5 nuts..", 15);
        fault("ann has 5 nuts ", 15);
        fault("ann has 5 nuts?", 14);
        fault("5 ann", 0);
        fault(".", 0);
    }

    private static void faultsOfQuestions() {
        fault("how many figs have eve and hal?", -1);
        fault("how many pies had gus ?", -1);
        fault("how", 3);
        fault("how much", 4);
        fault("how many ann", 9);
        fault("how many eggs ann", 14);
        fault("how many eggs has ann and bob?", 22);
        fault("how many eggs had ann and bob?", 22);
        fault("how many eggs have ann?", 22);
        fault("how many eggs have ann and ann?", 27);
        fault("how many eggs has ann.", 21);
        fault("how many eggs has ann", 21);
        fault(ASK + "ann", 22);
        fault(ASK + " how many", 23);
        fault(ASK + "?", 22);
        fault(ASK + " \n ", -1);
    }
}
