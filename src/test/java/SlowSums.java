import java.math.BigInteger;
import java.util.ArrayDeque;
import java.util.Deque;

/** The document's face over a SlowTale: a TAPE as a text, and the NUMBERS as they were ahead of each put(). */
final class SlowSums {
    private static final int MOST_BYTES = 400;
    private static final int MOST_UNDONE = 50;

    private String tape = "";
    private SlowTale tale = null;
    private final Deque<int[]> puts = new ArrayDeque<>();

    int feed(int[] numbers) {
        StringBuilder more = new StringBuilder(tape);
        for (int number : numbers) {
            for (byte one : BigInteger.valueOf(number & 0xffffffffL | 1L << 32).toByteArray()) {
                more.append((char) (one & 255));
            }
            // The 1 that keeps the zeros ahead of it from being lost is no byte of the number.
            more.deleteCharAt(more.length() - 5);
        }
        String next = more.toString().replace("\0", "");
        if (next.length() > MOST_BYTES) {
            return -1;
        }
        tape = next;
        return tape.length();
    }

    boolean end(int n) {
        if (n < 0 || n > tape.length()) {
            return false;
        }
        tape = tape.substring(0, n);
        return true;
    }

    int fault() {
        return new SlowTale(tape).fault;
    }

    boolean tale() {
        SlowTale next = new SlowTale(tape);
        if (next.fault != -1) {
            return false;
        }
        tale = next;
        tape = "";
        puts.clear();
        return true;
    }

    int sentences() {
        return tale == null ? 0 : tale.sentences.size();
    }

    boolean has(int i, int what) {
        return i >= 0 && i < sentences() && what >= 0 && what <= 6;
    }

    int sentence(int i, int what) {
        return tale.sentences.get(i)[what];
    }

    int question(int what) {
        return tale == null || what < 0 || what > 4 ? -1 : tale.question[what];
    }

    int quarrel() {
        return tale == null ? -1 : tale.quarrel();
    }

    private static long part(BigInteger[] value, int what) {
        return value == null || what < 0 || what > 1 ? TaleSums.UNTOLD : value[what].longValueExact();
    }

    long answer(int what) {
        return tale == null ? TaleSums.UNTOLD : part(tale.answer(), what);
    }

    long amount(int name, int unit, int stage, int what) {
        boolean such = tale != null && name >= 0 && name < 8 && unit >= 0 && unit < 4 && stage >= 0 && stage < tale.stages;
        return such ? part(tale.amounts(stage)[unit * 8 + name], what) : TaleSums.UNTOLD;
    }

    int idle() {
        return tale == null ? 0 : tale.idle();
    }

    int enough() {
        return tale == null ? -1 : tale.enough();
    }

    int lacking() {
        return tale == null ? -1 : tale.lacking();
    }

    int strange(int what) {
        return tale == null || what < 0 || what > 2 ? -1 : tale.strange()[what];
    }

    boolean put(int i, int number) {
        if (!has(i, 0)) {
            return false;
        }
        int[] sentence = tale.sentences.get(i);
        boolean times = sentence[0] == 3;
        if (number < (times ? 2 : 0) || number > (times ? 9 : 999)) {
            return false;
        }
        puts.addLast(new int[] {i, sentence[4]});
        if (puts.size() > MOST_UNDONE) {
            puts.removeFirst();
        }
        sentence[4] = number;
        return true;
    }

    int undo() {
        if (puts.isEmpty()) {
            return -1;
        }
        int[] last = puts.removeLast();
        tale.sentences.get(last[0])[4] = last[1];
        return last[0];
    }

    int count(int what) {
        switch (what) {
            case 0: return tape.length();
            case 1: return tale == null ? 0 : Integer.bitCount(tale.facts());
            case 2: return tale == null ? 0 : tale.stages;
            case 3: return tale == null ? 0 : settled();
            case 4: return puts.size();
            default: return -1;
        }
    }

    private int settled() {
        int settled = 0;
        for (BigInteger[] amount : tale.amounts(0)) {
            settled += amount != null ? 1 : 0;
        }
        return settled;
    }
}
