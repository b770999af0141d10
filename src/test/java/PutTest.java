/** Promises 16 and 17: put, undo. */
public final class PutTest {
    private static final String TEXT = "ann has 5 nuts.bob has 3 times as many nuts as ann.ann gives 2 nuts to bob."
            + "cat has 4 more figs than dan.how many nuts has bob?";

    public static void main(String[] args) {
        putting();
        undoing();
        latestFifty();
        Check.finish("PutTest");
    }

    private static void putting() {
        TaleSums x = Check.told(TEXT);
        int[][] refused = {{-1, 1}, {4, 1}, {Integer.MIN_VALUE, 1}, {Integer.MAX_VALUE, 1}, {0, -1}, {0, 1000},
            {0, Integer.MAX_VALUE}, {0, Integer.MIN_VALUE}, {1, 1}, {1, 10}, {1, 0}, {2, 1000}, {2, -1}};
        for (int[] call : refused) {
            Check.due("put(" + call[0] + ", " + call[1] + ")", x.put(call[0], call[1]), false);
        }
        Check.due("count(4)", x.count(4), 0);
        Check.answers(x, 17, 1);
        int[][] taken = {{0, 0}, {0, 999}, {1, 2}, {1, 9}, {2, 0}, {2, 999}, {3, 7}};
        for (int[] call : taken) {
            Check.due("put(" + call[0] + ", " + call[1] + ")", x.put(call[0], call[1]), true);
            Check.due("sentence", x.sentence(call[0], 4), call[1]);
        }
        Check.answers(x, 999 * 9 + 999, 1);
        Check.due("count(4)", x.count(4), 7);
        Check.due("the sort stays", x.sentence(1, 0), 3);
        Check.due("amount", x.amount(0, 0, 1, 0), 0);
    }

    private static void undoing() {
        TaleSums x = Check.told(TEXT);
        Check.due("undo()", x.undo(), -1);
        x.put(0, 6);
        x.put(0, 6);
        x.put(1, 4);
        x.put(1, 1);
        Check.answers(x, 26, 1);
        Check.due("undo()", x.undo(), 1);
        Check.answers(x, 20, 1);
        Check.due("count(4)", x.count(4), 2);
        Check.due("undo()", x.undo(), 0);
        Check.due("the same number again", x.sentence(0, 4), 6);
        x.put(2, 9);
        Check.due("undo()", x.undo(), 2);
        Check.due("undo()", x.undo(), 0);
        Check.due("undo()", x.undo(), -1);
        Check.answers(x, 17, 1);
    }

    private static void latestFifty() {
        TaleSums x = Check.told(TEXT);
        for (int i = 1; i <= 60; i++) {
            Check.due("put", x.put(0, 100 + i), true);
            Check.due("count(4)", x.count(4), Math.min(i, 50));
        }
        for (int i = 59; i >= 10; i--) {
            Check.due("undo()", x.undo(), 0);
            Check.due("as it was ahead", x.sentence(0, 4), 100 + i);
        }
        Check.due("undo()", x.undo(), -1);
        Check.due("the eldest is kept", x.sentence(0, 4), 110);
    }
}
