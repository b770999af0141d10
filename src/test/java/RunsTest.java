import java.util.Random;

/**
 * Runs of calls made by chance, wrong ones among them: each answer against SlowSums'. Every run has
 * the most calls that an object is used for.
 */
public final class RunsTest {
    private static final int CALLS = 512;
    private static final int[] EDGES = {-1, 0, 1, 2, 3, 4, 5, 6, 7, 8, 9, 10, 11, 400, 401, 999, 1000,
        Integer.MIN_VALUE, Integer.MAX_VALUE};

    private final long seed;
    private final Random random;
    private final MadeTales made;
    private final TaleSums x = new TaleSums();
    private final SlowSums slow = new SlowSums();
    private int calls = 0;
    private String text = "";
    private int fed = 0;

    private RunsTest(long seed) {
        this.seed = seed;
        random = new Random(seed);
        made = new MadeTales(random);
    }

    public static void main(String[] args) {
        long runs = args.length > 0 ? Long.parseLong(args[0]) : 120;
        for (long seed = 1; seed <= runs; seed++) {
            new RunsTest(seed).run();
        }
        Check.finish("RunsTest");
    }

    private void run() {
        while (calls < CALLS) {
            // The last calls of a run only ask, since a text is fed by several calls.
            int sort = calls < CALLS - 3 ? random.nextInt(100) : 99;
            if (sort < 30) {
                feedText();
            } else if (sort < 34) {
                feedAnything();
            } else if (sort < 38) {
                end();
            } else if (sort < 46) {
                due("tale()", x.tale() ? 1 : 0, slow.tale() ? 1 : 0);
            } else if (sort < 72) {
                changeNumbers();
            } else {
                askMuch();
            }
        }
    }

    private void askMuch() {
        int many = 1 + random.nextInt(40);
        for (int i = 0; i < many && calls < CALLS; i++) {
            ask();
        }
    }

    private void due(String call, long got, long want) {
        calls++;
        Check.due("run " + seed + ", call " + calls + ": " + call, got, want);
    }

    private int edge() {
        return EDGES[random.nextInt(EDGES.length)];
    }

    /** One part more of a text; then TALE, or another text behind it. */
    private void feedText() {
        if (fed >= text.length()) {
            text = random.nextInt(4) == 0 ? made.broken(made.tale()) : made.tale();
            fed = 0;
            if (random.nextInt(5) != 0) {
                due("end(0)", x.end(0) ? 1 : 0, slow.end(0) ? 1 : 0);
            }
        }
        for (int parts = 0; parts < 21 && fed < text.length() && calls < CALLS - 2; parts++) {
            int[] numbers = new int[5];
            for (int place = 0; place < 20 && fed < text.length(); place++) {
                // A byte of 0 now and then among the others is left out.
                if (random.nextInt(12) != 0) {
                    numbers[place / 4] |= text.charAt(fed) << 24 - 8 * (place % 4);
                    fed++;
                }
            }
            feed(numbers);
        }
        if (random.nextInt(4) != 0) {
            due("fault()", x.fault(), slow.fault());
            due("tale()", x.tale() ? 1 : 0, slow.tale() ? 1 : 0);
        }
    }

    private void feedAnything() {
        int[] numbers = new int[5];
        for (int k = 0; k < 5; k++) {
            numbers[k] = random.nextBoolean() ? random.nextInt() : edge();
        }
        feed(numbers);
    }

    private void feed(int[] n) {
        due("feed()", x.feed(n[0], n[1], n[2], n[3], n[4]), slow.feed(n));
    }

    private void end() {
        int size = slow.count(0);
        int n = random.nextInt(3) == 0 ? edge() : size + random.nextInt(5) - 3;
        due("end(" + n + ")", x.end(n) ? 1 : 0, slow.end(n) ? 1 : 0);
    }

    /** Sometimes more than can be undone, and back more often than that. */
    private void changeNumbers() {
        int many = random.nextInt(12) == 0 ? 60 : random.nextInt(4);
        for (int i = 0; i < many && calls < CALLS; i++) {
            int which = random.nextInt(8) == 0 ? edge() : random.nextInt(10);
            int number = random.nextInt(3) == 0 ? edge() : random.nextInt(random.nextBoolean() ? 12 : 1001);
            due("put(" + which + ", " + number + ")", x.put(which, number) ? 1 : 0, slow.put(which, number) ? 1 : 0);
        }
        many = random.nextInt(8) == 0 ? 60 : random.nextInt(3);
        for (int i = 0; i < many && calls < CALLS; i++) {
            due("undo()", x.undo(), slow.undo());
        }
    }

    private void ask() {
        int what = random.nextInt(5) == 0 ? edge() : random.nextInt(7);
        switch (random.nextInt(13)) {
            case 0: due("sentences()", x.sentences(), slow.sentences()); break;
            case 1: sentence(random.nextInt(4) == 0 ? edge() : random.nextInt(10), what); break;
            case 2: due("question(" + what + ")", x.question(what), slow.question(what)); break;
            case 3: due("quarrel()", x.quarrel(), slow.quarrel()); break;
            case 4: due("answer(" + what % 3 + ")", x.answer(what % 3), slow.answer(what % 3)); break;
            case 5: case 6: amount(what % 3); break;
            case 7: due("idle()", x.idle(), slow.idle()); break;
            case 8: due("enough()", x.enough(), slow.enough()); break;
            case 9: due("lacking()", x.lacking(), slow.lacking()); break;
            case 10: due("strange(" + what + ")", x.strange(what), slow.strange(what)); break;
            case 11: due("count(" + what + ")", x.count(what), slow.count(what)); break;
            default: due("fault()", x.fault(), slow.fault()); break;
        }
    }

    private void amount(int what) {
        boolean odd = random.nextInt(6) == 0;
        int name = odd ? edge() : random.nextInt(8);
        int unit = random.nextInt(8) == 0 ? edge() : random.nextInt(random.nextBoolean() ? 1 : 4);
        int stage = random.nextInt(8) == 0 ? edge() : random.nextInt(4);
        due("amount(" + name + ", " + unit + ", " + stage + ", " + what + ")",
                x.amount(name, unit, stage, what), slow.amount(name, unit, stage, what));
    }

    private void sentence(int i, int what) {
        if (slow.has(i, what)) {
            due("sentence(" + i + ", " + what + ")", x.sentence(i, what), slow.sentence(i, what));
        } else {
            calls++;
            Check.throwsNoSuch("run " + seed + ", call " + calls + ": sentence(" + i + ", " + what + ")", x, i, what);
        }
    }
}
