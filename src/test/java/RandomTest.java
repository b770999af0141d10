import java.math.BigInteger;
import java.util.ArrayList;
import java.util.List;
import java.util.Random;

/** Many made tales: each answer of the class against SlowTale's, with fewer than 512 calls an object. */
public final class RandomTest {
    private final Random random;
    private final MadeTales made;
    private TaleSums x;

    private RandomTest(long seed) {
        random = new Random(seed);
        made = new MadeTales(random);
    }

    public static void main(String[] args) {
        long tales = args.length > 0 ? Long.parseLong(args[0]) : 800;
        for (long seed = 1; seed <= tales; seed++) {
            RandomTest test = new RandomTest(seed);
            test.faults();
            test.oneTale();
            test.oneTale();
        }
        Check.finish("RandomTest");
    }

    private void faults() {
        for (int i = 0; i < 5; i++) {
            String text = made.broken(made.tale());
            if (text.length() <= 400) {
                Check.due("fault() of " + text, Check.faultOf(text), new SlowTale(text).fault);
            }
        }
    }

    private void oneTale() {
        x = new TaleSums();
        if (random.nextBoolean()) {
            Check.feed(x, made.tale());
            Check.due("tale() of an earlier one", x.tale(), true);
        }
        String text = made.tale();
        SlowTale slow = new SlowTale(text);
        Check.feed(x, text);
        Check.due("fault() of " + text, x.fault(), slow.fault);
        Check.due("tale() of " + text, x.tale(), true);
        compare(text, slow);
        List<int[]> puts = new ArrayList<>();
        for (int i = 0; i < 4 && !slow.sentences.isEmpty(); i++) {
            int which = random.nextInt(slow.sentences.size());
            int[] sentence = slow.sentences.get(which);
            int number = sentence[0] == 3 ? 2 + random.nextInt(8) : random.nextInt(random.nextBoolean() ? 1000 : 20);
            puts.add(new int[] {which, sentence[4]});
            sentence[4] = number;
            Check.due("put of " + text, x.put(which, number), true);
            Check.due("count(4)", x.count(4), puts.size());
        }
        compare(text + " with puts", slow);
        for (int i = puts.size() - 1; i >= 0; i--) {
            slow.sentences.get(puts.get(i)[0])[4] = puts.get(i)[1];
            Check.due("undo() of " + text, x.undo(), puts.get(i)[0]);
        }
        Check.due("undo()", x.undo(), -1);
        Check.answers(x, part(slow.answer(), 0), part(slow.answer(), 1));
    }

    private static long part(BigInteger[] value, int what) {
        return value == null ? TaleSums.UNTOLD : value[what].longValueExact();
    }

    private void compare(String text, SlowTale slow) {
        Check.due("sentences()", x.sentences(), slow.sentences.size());
        for (int i = 0; i < slow.sentences.size(); i++) {
            for (int what = 0; what < 7; what++) {
                Check.due("sentence() of " + text, x.sentence(i, what), slow.sentences.get(i)[what]);
            }
        }
        for (int what = 0; what < 5; what++) {
            Check.due("question() of " + text, x.question(what), slow.question[what]);
        }
        Check.due("quarrel() of " + text, x.quarrel(), slow.quarrel());
        BigInteger[] answer = slow.answer();
        Check.due("answer(0) of " + text, x.answer(0), part(answer, 0));
        Check.due("answer(1) of " + text, x.answer(1), part(answer, 1));
        Check.due("idle() of " + text, x.idle(), slow.idle());
        Check.due("enough() of " + text, x.enough(), slow.enough());
        Check.due("lacking() of " + text, x.lacking(), slow.lacking());
        for (int what = 0; what < 3; what++) {
            Check.due("strange() of " + text, x.strange(what), slow.strange()[what]);
        }
        Check.due("count(1)", x.count(1), Integer.bitCount(slow.facts()));
        Check.due("count(2)", x.count(2), slow.stages);
        compareAmounts(text, slow);
    }

    /** One STAGE a time: all of them would be more calls than an object is used for. */
    private void compareAmounts(String text, SlowTale slow) {
        int stage = random.nextInt(slow.stages);
        BigInteger[][] told = slow.amounts(stage);
        int settled = 0;
        for (int k = 0; k < 32; k++) {
            Check.due("amount() of " + text, x.amount(k % 8, k / 8, stage, 0), part(told[k], 0));
            Check.due("amount() of " + text, x.amount(k % 8, k / 8, stage, 1), part(told[k], 1));
            settled += told[k] != null ? 1 : 0;
        }
        Check.due("count(3) of " + text, x.count(3), settled);
    }
}
