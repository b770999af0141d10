/** Promises 9 to 15 and 18: quarrel, answer, amount, idle, enough, lacking, strange, count. */
public final class SumsTest {
    public static void main(String[] args) {
        answers();
        stages();
        quarrels();
        amounts();
        idleAndEnough();
        lacking();
        strange();
        counts();
        largest();
        Check.finish("SumsTest");
    }

    private static void answered(String text, long top, long bottom) {
        Check.answers(Check.told(text), top, bottom);
    }

    private static void answers() {
        answered("ann has 5 nuts. how many nuts has ann?", 5, 1);
        answered("ann has 0 nuts. how many nuts has ann?", 0, 1);
        answered("ann has 5 nuts. how many figs has ann?", TaleSums.UNTOLD, TaleSums.UNTOLD);
        answered("bob has 5 nuts.ann has 7 more nuts than bob.how many nuts has ann?", 12, 1);
        answered("bob has 5 nuts.ann has 7 fewer nuts than bob.how many nuts has ann?", -2, 1);
        answered("bob has 5 nuts.ann has 7 times as many nuts as bob.how many nuts has ann?", 35, 1);
        answered("ann has 5 nuts.ann has 7 times as many nuts as bob.how many nuts has bob?", 5, 7);
        answered("ann has 4 nuts.ann has 6 times as many nuts as bob.how many nuts has bob?", 2, 3);
        answered("ann and bob have 7 nuts.bob has 9 nuts.how many nuts has ann?", -2, 1);
        answered("ann and bob have 7 nuts.how many nuts have bob and ann?", 7, 1);
        answered("ann and bob have 7 nuts.bob and cat have 8 nuts.ann and cat have 2 nuts."
                + "how many nuts has ann?", 1, 2);
        answered("ann has 2 times as many nuts as bob.bob has 2 times as many nuts as ann."
                + "how many nuts has bob?", 0, 1);
        TaleSums x = Check.told("ann has 5 nuts. how many nuts has ann?");
        Check.due("answer(-1)", x.answer(-1), TaleSums.UNTOLD);
        Check.due("answer(2)", x.answer(2), TaleSums.UNTOLD);
    }

    private static void stages() {
        answered("ann buys 3 nuts.ann has 5 nuts.ann eats 1 nuts.how many nuts had ann?", 2, 1);
        answered("ann buys 3 nuts.ann has 5 nuts.ann eats 1 nuts.how many nuts has ann?", 4, 1);
        answered("ann gives 3 nuts to bob.bob has 2 times as many nuts as ann.ann and bob have 12 nuts."
                + "how many nuts had ann?", 7, 1);
        answered("ann has 1 more nuts than bob.ann gives 2 nuts to bob.ann has 4 nuts.bob buys 9 nuts."
                + "how many nuts have ann and bob?", 4 + 7 + 9, 1);
        answered("ann buys 3 figs.ann has 5 nuts.how many nuts had ann?", 5, 1);
        TaleSums x = Check.told("ann has 5 nuts.ann gives 2 nuts to bob.bob has 2 nuts.bob eats 4 nuts."
                + "how many nuts has cat?");
        long[][] due = {{5, 0}, {3, 2}, {3, -2}};
        for (int stage = 0; stage < 3; stage++) {
            for (int name = 0; name < 2; name++) {
                Check.due("amount", x.amount(name, 0, stage, 0), due[stage][name]);
                Check.due("amount", x.amount(name, 0, stage, 1), 1);
            }
        }
    }

    private static void quarrels() {
        TaleSums x = Check.told("ann has 5 nuts.bob eats 1 nuts.ann has 5 nuts.ann has 6 nuts.ann has 5 nuts."
                + "ann has 7 figs.how many nuts has ann?");
        Check.due("quarrel()", x.quarrel(), 3);
        Check.answers(x, TaleSums.UNTOLD, TaleSums.UNTOLD);
        Check.due("amount", x.amount(0, 1, 0, 0), TaleSums.UNTOLD);
        Check.due("idle()", x.idle(), 0);
        Check.due("enough()", x.enough(), -1);
        Check.due("lacking()", x.lacking(), -1);
        Check.due("count(3)", x.count(3), 0);
        Check.due("count(1)", x.count(1), 5);
        Check.due("quarrel of another unit",
                Check.told("ann has 1 figs.ann has 2 figs.ann has 1 nuts.how many nuts has ann?").quarrel(), 1);
        Check.due("a round of more",
                Check.told("ann has 1 more figs than bob.bob has 1 more figs than ann.how many nuts has ann?")
                        .quarrel(), 1);
        Check.due("alike by no difference",
                Check.told("ann has 0 more figs than bob.bob has 0 fewer figs than ann.how many nuts has ann?")
                        .quarrel(), -1);
        Check.due("below 0 is no quarrel",
                Check.told("ann has 1 nuts.ann eats 5 nuts.how many nuts has ann?").quarrel(), -1);
        TaleSums strange = Check.told("ann has 1 nuts.ann eats 5 nuts.bob has 1 nuts.bob has 0 nuts."
                + "how many nuts has ann?");
        Check.due("strange with a quarrel", strange.strange(0), -1);
    }

    private static void amounts() {
        TaleSums x = Check.told("dan has 5 eggs.dan buys 2 eggs.how many eggs has ann?");
        Check.due("amount", x.amount(3, 3, 0, 0), 5);
        Check.due("amount", x.amount(3, 3, 1, 0), 7);
        int[][] none = {{3, 3, 2, 0}, {3, 3, -1, 0}, {3, 4, 0, 0}, {3, -1, 0, 0}, {8, 3, 0, 0}, {-1, 3, 0, 0},
            {3, 3, 0, 2}, {3, 3, 0, -1}, {2, 3, 0, 0}, {3, 2, 0, 0},
            {Integer.MAX_VALUE, 3, 0, 0}, {3, Integer.MIN_VALUE, 0, 0}, {3, 3, Integer.MAX_VALUE, 0}};
        for (int[] call : none) {
            Check.due("amount of none", x.amount(call[0], call[1], call[2], call[3]), TaleSums.UNTOLD);
        }
    }

    private static void idleAndEnough() {
        TaleSums x = Check.told("ann has 3 more nuts than bob.bob has 2 nuts.ann and bob have 7 nuts.cat has 1 nuts."
                + "ann eats 1 nuts.ann has 4 nuts.how many nuts has ann?");
        Check.due("idle()", x.idle(), 1 + 2 + 4 + 8 + 32);
        Check.due("enough()", x.enough(), 32);
        TaleSums two = Check.told("ann has 3 more nuts than bob.bob has 2 nuts.ann and bob have 7 nuts."
                + "how many nuts has ann?");
        Check.due("idle()", two.idle(), 7);
        Check.due("the least by bits", two.enough(), 3);
        TaleSums later = Check.told("cat has 2 nuts.ann and bob have 7 nuts.ann has 3 more nuts than bob."
                + "how many nuts has ann?");
        Check.due("idle()", later.idle(), 1);
        Check.due("enough()", later.enough(), 6);
        TaleSums fewer = Check.told("bob has 2 nuts.ann has 1 more nuts than bob.ann has 3 nuts."
                + "how many nuts has ann?");
        Check.due("the fewest ahead of the least", fewer.enough(), 4);
        TaleSums open = Check.told("bob has 2 nuts.how many nuts has ann?");
        Check.due("idle() without an answer", open.idle(), 0);
        Check.due("enough() without an answer", open.enough(), -1);
        x.put(5, 3);
        Check.due("idle() with a quarrel", x.idle(), 0);
        Check.due("enough() with a quarrel", x.enough(), -1);
        x.undo();
        Check.due("idle() again", x.idle(), 47);
        Check.due("enough() again", x.enough(), 32);
        TaleSums pair = Check.told("ann has 2 nuts.bob has 3 nuts.ann and bob have 5 nuts."
                + "how many nuts have ann and bob?");
        Check.due("enough() of a sum", pair.enough(), 4);
        Check.due("idle() of a sum", pair.idle(), 7);
        TaleSums round = Check.told("ann has 2 times as many nuts as bob.ann has 3 times as many nuts as bob."
                + "ann has 0 nuts.how many nuts has bob?");
        Check.due("idle() of a round", round.idle(), 7);
        Check.due("enough() of a round", round.enough(), 3);
        round.put(1, 2);
        Check.due("idle() with another number", round.idle(), 3);
        Check.due("enough() with another number", round.enough(), 5);
        Check.feed(round, "bob has 1 nuts.how many nuts has bob?");
        Check.due("tale()", round.tale(), true);
        Check.due("idle() of another tale", round.idle(), 0);
        Check.due("enough() of another tale", round.enough(), 1);
    }

    private static void lacks(String text, int want) {
        Check.due("lacking() of " + text, Check.told(text).lacking(), want);
    }

    private static void lacking() {
        lacks("how many nuts has eve?", 4);
        lacks("how many nuts have eve and ann?", -1);
        lacks("bob has 2 more nuts than cat.how many nuts has cat?", 1);
        lacks("ann has 3 figs.bob has 2 more figs than cat.how many nuts has cat?", 2);
        lacks("bob has 2 more nuts than cat.cat has 2 more nuts than dan.how many nuts have cat and dan?", 1);
        lacks("bob has 2 nuts.how many nuts have bob and gus?", 6);
        lacks("bob has 2 nuts.gus and ann have 2 nuts.how many nuts have bob and gus?", 0);
        lacks("bob has 2 nuts.how many nuts has bob?", -1);
        lacks("bob has 2 figs.bob has 1 figs.how many nuts has bob?", -1);
        lacks("ann and bob have 3 nuts.cat and dan have 3 nuts.how many nuts have ann and cat?", -1);
        lacks("ann and bob have 3 nuts.bob and cat have 3 nuts.how many nuts have ann and cat?", 0);
        lacks("ann and bob have 3 nuts.ann eats 1 nuts.how many nuts have ann and bob?", -1);
    }

    private static void strange() {
        TaleSums x = Check.told("hal has 1 nuts.hal eats 2 eggs.hal eats 2 nuts.bob has 1 figs."
                + "bob has 2 times as many figs as cat.how many nuts has ann?");
        int[] first = {2, 1, 0};
        TaleSums later = Check.told("hal has 1 nuts.ann has 1 figs.ann eats 2 figs.hal eats 2 nuts.gus eats 1 nuts."
                + "gus has 0 nuts.gus eats 1 nuts.how many nuts has ann?");
        int[] byStage = {0, 1, 1};
        TaleSums unit = Check.told("hal has 1 nuts.hal gives 2 nuts to bob.ann has 1 figs.ann buys 1 figs."
                + "how many nuts has ann?");
        int[] byUnit = {7, 0, 1};
        for (int what = 0; what < 3; what++) {
            Check.due("strange", x.strange(what), first[what]);
            Check.due("strange", later.strange(what), byStage[what]);
            Check.due("strange", unit.strange(what), byUnit[what]);
        }
        Check.due("strange(3)", x.strange(3), -1);
        Check.due("strange(-1)", x.strange(-1), -1);
        TaleSums fine = Check.told("hal has 0 nuts.ann eats 5 nuts.how many nuts has ann?");
        Check.due("nothing is strange", fine.strange(0), -1);
        TaleSums both = Check.told("bob has 0 nuts.ann has 0 nuts.bob eats 1 nuts.ann eats 1 nuts.bob has 0 figs."
                + "how many nuts has ann?");
        Check.due("by stages ahead of names", both.strange(0), 1);
    }

    private static void counts() {
        TaleSums x = Check.told("ann has 1 nuts.ann and bob have 3 nuts.cat has 1 more eggs than dan.dan eats 1 eggs."
                + "dan has 3 eggs.how many nuts has ann?");
        Check.due("count(0)", x.count(0), 0);
        Check.due("count(1)", x.count(1), 4);
        Check.due("count(2)", x.count(2), 2);
        Check.due("count(3)", x.count(3), 4);
        Check.due("count(4)", x.count(4), 0);
        Check.feed(x, "ann");
        Check.due("count(0)", x.count(0), 3);
        TaleSums bare = Check.told("how many nuts has ann?");
        Check.due("count(1)", bare.count(1), 0);
        Check.due("count(2)", bare.count(2), 1);
        Check.due("count(3)", bare.count(3), 0);
    }

    /** The largest weights that a tale can bring: nine times, eight names in a round. */
    private static void largest() {
        String[] names = {"ann", "bob", "cat", "dan", "eve", "fay", "gus", "hal"};
        StringBuilder text = new StringBuilder("ann buys 999 nuts.bob eats 999 nuts.");
        for (int i = 0; i < 8; i++) {
            text.append(names[i]).append(" has 9 times as many nuts as ").append(names[(i + 1) % 8]).append('.');
        }
        TaleSums x = Check.told(text + "how many nuts had ann?");
        Check.answers(x, -999, 1);
        Check.due("enough()", x.enough(), 1020);
        Check.due("idle()", x.idle(), 0);
        Check.due("count(3)", x.count(3), 8);
    }
}
