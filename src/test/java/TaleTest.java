/** Promises 5 to 8: tale, sentences, sentence, question. */
public final class TaleTest {
    private static final String ALL = " ann has 007 nuts.bob has 1 more figs than cat.dan has 999 fewer pies than eve."
            + "fay has 9 times as many eggs as gus.hal gives 4 nuts to ann.gus and hal have 0 nuts.\nbob buys 6 figs."
            + "cat eats 8 pies. how many eggs have hal and bob?";

    public static void main(String[] args) {
        taking();
        parts();
        refusals();
        questions();
        Check.finish("TaleTest");
    }

    private static void taking() {
        TaleSums x = new TaleSums();
        Check.feed(x, "ann has 4 nuts. how many nuts has ann? ");
        Check.due("tale()", x.tale(), true);
        Check.due("the tape is empty", x.count(0), 0);
        Check.due("fault()", x.fault(), 0);
        Check.due("sentences()", x.sentences(), 1);
        Check.due("put", x.put(0, 5), true);
        Check.feed(x, "bob has 4 figs. how many");
        Check.due("fault()", x.fault(), 24);
        Check.due("a fault is refused", x.tale(), false);
        Check.due("the tape stays", x.count(0), 24);
        Check.due("the old tale stays", x.sentence(0, 3), 0);
        Check.due("its changes stay", x.count(4), 1);
        Check.answers(x, 5, 1);
        Check.feed(x, " figs has bob?");
        Check.due("tale()", x.tale(), true);
        Check.due("the new tale", x.sentence(0, 3), 1);
        Check.due("no changes of the old one", x.count(4), 0);
        Check.due("undo()", x.undo(), -1);
        Check.answers(x, 4, 1);
        Check.feed(x, "how many pies has ann?");
        Check.due("tale()", x.tale(), true);
        Check.due("sentences()", x.sentences(), 0);
        Check.answers(x, TaleSums.UNTOLD, TaleSums.UNTOLD);
    }

    private static void parts() {
        TaleSums x = Check.told(ALL);
        int[][] due = {
            {0, 0, -1, 0, 7, 0, 1},
            {1, 1, 2, 1, 1, 0, ALL.indexOf("bob has")},
            {2, 3, 4, 2, 999, 0, ALL.indexOf("dan has")},
            {3, 5, 6, 3, 9, 0, ALL.indexOf("fay has")},
            {5, 7, 0, 0, 4, 0, ALL.indexOf("hal gives")},
            {4, 6, 7, 0, 0, 1, ALL.indexOf("gus and")},
            {6, 1, -1, 1, 6, 1, ALL.indexOf("bob buys")},
            {7, 2, -1, 2, 8, 2, ALL.indexOf("cat eats")},
        };
        Check.due("sentences()", x.sentences(), due.length);
        for (int i = 0; i < due.length; i++) {
            for (int what = 0; what < 7; what++) {
                Check.due("sentence(" + i + ", " + what + ")", x.sentence(i, what), due[i][what]);
            }
        }
        int[] asked = {1, 7, 1, 3, 3};
        for (int what = 0; what < 5; what++) {
            Check.due("question(" + what + ")", x.question(what), asked[what]);
        }
        Check.due("facts", x.count(1), 5);
        Check.due("stages", x.count(2), 4);
    }

    private static void refusals() {
        TaleSums x = Check.told(ALL);
        int[] far = {-1, 8, 10, Integer.MIN_VALUE, Integer.MAX_VALUE};
        for (int i : far) {
            Check.throwsNoSuch("sentence(" + i + ", 0)", x, i, 0);
        }
        int[] whats = {-1, 7, Integer.MIN_VALUE, Integer.MAX_VALUE};
        for (int what : whats) {
            Check.throwsNoSuch("sentence(0, " + what + ")", x, 0, what);
        }
        int[] others = {-1, 5, 6, Integer.MIN_VALUE, Integer.MAX_VALUE};
        for (int what : others) {
            Check.due("question(" + what + ")", x.question(what), -1);
            Check.due("count(" + what + ")", x.count(what), -1);
        }
    }

    private static void questions() {
        TaleSums has = Check.told("ann eats 1 nuts. how many figs has gus?");
        int[] dueHas = {0, 6, -1, 1, 1};
        TaleSums had = Check.told("ann eats 1 nuts. how many pies had dan?");
        int[] dueHad = {2, 3, -1, 2, 0};
        for (int what = 0; what < 5; what++) {
            Check.due("question of has", has.question(what), dueHas[what]);
            Check.due("question of had", had.question(what), dueHad[what]);
        }
    }
}
