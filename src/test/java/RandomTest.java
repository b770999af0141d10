import java.math.BigInteger;
import java.util.ArrayList;
import java.util.List;
import java.util.Random;

/** Many made tales: each answer of the class against SlowTale's, with fewer than 512 calls an object. */
public final class RandomTest {
    private static final String[] ODD_WORDS = {"ann", "bob", "has", "have", "and", "nuts", "figs", ".", "?", "5", "1000",
        "12", "1", "times", "as", "many", "than", "to", "how", "had", "more", "fewer", "5a", "zed", "!", "A", "\t", ""};

    private final Random random;
    private TaleSums x;
    private int names;
    private int units;

    private RandomTest(long seed) {
        random = new Random(seed);
    }

    public static void main(String[] args) {
        long tales = args.length > 0 ? Long.parseLong(args[0]) : 800;
        for (long seed = 1; seed <= tales; seed++) {
            RandomTest test = new RandomTest(seed);
            test.faults();
            test.oneTale();
            test.oneTale();
        }
        Check.finish("RandomTest");
    }

    private void faults() {
        for (int i = 0; i < 5; i++) {
            String text = broken(madeTale());
            if (text.length() <= 400) {
                Check.due("fault() of " + text, Check.faultOf(text), new SlowTale(text).fault);
            }
        }
    }

    private String broken(String text) {
        List<String> words = new ArrayList<>(List.of(text.split("(?<=[ .?\\n])|(?=[.?])")));
        int at = random.nextInt(words.size());
        switch (random.nextInt(5)) {
            case 0: words.remove(at); break;
            case 1: words.add(at, ODD_WORDS[random.nextInt(ODD_WORDS.length)]); break;
            case 2: words.set(at, ODD_WORDS[random.nextInt(ODD_WORDS.length)] + " "); break;
            case 3: return text.substring(0, random.nextInt(text.length() + 1));
            default:
                int place = random.nextInt(text.length());
                return text.substring(0, place) + (char) (1 + random.nextInt(255)) + text.substring(place + 1);
        }
        return String.join("", words);
    }

    private String madeTale() {
        names = 1 + random.nextInt(8);
        names = names == 1 ? 2 : names;
        units = random.nextInt(3) == 0 ? 1 + random.nextInt(4) : 1;
        String text;
        do {
            StringBuilder made = new StringBuilder();
            int many = random.nextInt(4) == 0 ? 10 : random.nextInt(11);
            int mood = random.nextInt(4);
            int[] hidden = new int[32];
            for (int k = 0; k < 32; k++) {
                hidden[k] = random.nextInt(mood == 0 ? 999 : 12);
            }
            for (int i = 0; i < many; i++) {
                made.append(mood == 3 ? wildSentence() : trueSentence(hidden)).append(blank(true));
            }
            text = made + question();
        } while (text.length() > 400);
        return text;
    }

    private String blank(boolean mayLack) {
        int sort = random.nextInt(8);
        return sort == 0 ? "\n" : sort == 1 ? "  " : sort < 5 && mayLack ? "" : " ";
    }

    private String name(int i) {
        return SlowTale.NAMES.get(i);
    }

    private int other(int first) {
        return (first + 1 + random.nextInt(names - 1)) % names;
    }

    private String unit(int i) {
        return SlowTale.UNITS.get(i);
    }

    private String question() {
        int a = random.nextInt(names);
        String unit = unit(random.nextInt(units));
        String tail = random.nextInt(4) == 0 ? " ?" : "?";
        switch (random.nextInt(3)) {
            case 0: return "how many " + unit + blank(false) + "has " + name(a) + tail;
            case 1: return "how many " + unit + " have " + name(a) + " and " + name(other(a)) + tail;
            default: return "how many " + unit + " had " + name(a) + tail;
        }
    }

    private String wildSentence() {
        int number = random.nextBoolean() ? random.nextInt(1000) : 999;
        int a = random.nextInt(names);
        int sort = random.nextInt(3) == 0 ? random.nextInt(8) : 3;
        number = sort == 3 ? 2 + random.nextInt(8) : number;
        return sentence(sort, a, other(a), random.nextInt(units), number);
    }

    /** A sentence that is true of the hidden amounts, if there is one of a chosen sort. */
    private String trueSentence(int[] hidden) {
        for (int tries = 0; tries < 30; tries++) {
            int sort = random.nextInt(random.nextInt(3) == 0 ? 8 : 5);
            int a = random.nextInt(names);
            int b = other(a);
            int unit = random.nextInt(units);
            int had = hidden[unit * 8 + a];
            int its = hidden[unit * 8 + b];
            int number = random.nextInt(9);
            switch (sort) {
                case 0: number = had; break;
                case 1: number = had - its; break;
                case 2: number = its - had; break;
                case 3: number = its != 0 && had % its == 0 ? had / its : had == 0 && its == 0 ? 5 : -1; break;
                case 4: number = had + its; break;
                case 5: hidden[unit * 8 + b] += number; hidden[unit * 8 + a] -= number; break;
                case 6: hidden[unit * 8 + a] += number; break;
                default: hidden[unit * 8 + a] -= number; break;
            }
            if (number >= 0 && number <= 999 && (sort != 3 || number >= 2 && number <= 9)
                    && (sort != 0 || random.nextInt(3) == 0)) {
                return sentence(sort, a, b, unit, number);
            }
        }
        return sentence(6, 0, 1, 0, 0);
    }

    private String sentence(int sort, int a, int b, int unit, int number) {
        String n = name(a);
        String m = name(b);
        String u = unit(unit);
        String stop = random.nextInt(6) == 0 ? " ." : ".";
        switch (sort) {
            case 0: return n + " has" + blank(true) + number + " " + u + stop;
            case 1: return n + " has " + number + " more " + u + " than " + m + stop;
            case 2: return n + " has " + number + " fewer " + u + " than " + m + stop;
            case 3: return n + " has " + number + " times as many " + u + " as " + m + stop;
            case 4: return n + " and " + m + " have " + number + " " + u + stop;
            case 5: return n + " gives " + number + blank(false) + u + " to " + m + stop;
            case 6: return n + " buys " + number + " " + u + stop;
            default: return n + " eats " + number + " " + u + stop;
        }
    }

    private void oneTale() {
        x = new TaleSums();
        if (random.nextBoolean()) {
            Check.feed(x, madeTale());
            Check.due("tale() of an earlier one", x.tale(), true);
        }
        String text = madeTale();
        SlowTale slow = new SlowTale(text);
        Check.feed(x, text);
        Check.due("fault() of " + text, x.fault(), slow.fault);
        Check.due("tale() of " + text, x.tale(), true);
        compare(text, slow);
        List<int[]> puts = new ArrayList<>();
        for (int i = 0; i < 4 && !slow.sentences.isEmpty(); i++) {
            int which = random.nextInt(slow.sentences.size());
            int[] sentence = slow.sentences.get(which);
            int number = sentence[0] == 3 ? 2 + random.nextInt(8) : random.nextInt(random.nextBoolean() ? 1000 : 20);
            puts.add(new int[] {which, sentence[4]});
            sentence[4] = number;
            Check.due("put of " + text, x.put(which, number), true);
            Check.due("count(4)", x.count(4), puts.size());
        }
        compare(text + " with puts", slow);
        for (int i = puts.size() - 1; i >= 0; i--) {
            slow.sentences.get(puts.get(i)[0])[4] = puts.get(i)[1];
            Check.due("undo() of " + text, x.undo(), puts.get(i)[0]);
        }
        Check.due("undo()", x.undo(), -1);
        Check.answers(x, part(slow.answer(), 0), part(slow.answer(), 1));
    }

    private static long part(BigInteger[] value, int what) {
        return value == null ? TaleSums.UNTOLD : value[what].longValueExact();
    }

    private void compare(String text, SlowTale slow) {
        Check.due("sentences()", x.sentences(), slow.sentences.size());
        for (int i = 0; i < slow.sentences.size(); i++) {
            for (int what = 0; what < 7; what++) {
                Check.due("sentence() of " + text, x.sentence(i, what), slow.sentences.get(i)[what]);
            }
        }
        for (int what = 0; what < 5; what++) {
            Check.due("question() of " + text, x.question(what), slow.question[what]);
        }
        Check.due("quarrel() of " + text, x.quarrel(), slow.quarrel());
        BigInteger[] answer = slow.answer();
        Check.due("answer(0) of " + text, x.answer(0), part(answer, 0));
        Check.due("answer(1) of " + text, x.answer(1), part(answer, 1));
        Check.due("idle() of " + text, x.idle(), slow.idle());
        Check.due("enough() of " + text, x.enough(), slow.enough());
        Check.due("lacking() of " + text, x.lacking(), slow.lacking());
        for (int what = 0; what < 3; what++) {
            Check.due("strange() of " + text, x.strange(what), slow.strange()[what]);
        }
        Check.due("count(1)", x.count(1), Integer.bitCount(slow.facts()));
        Check.due("count(2)", x.count(2), slow.stages);
        compareAmounts(text, slow);
    }

    /** One STAGE a time: all of them would be more calls than an object is used for. */
    private void compareAmounts(String text, SlowTale slow) {
        int stage = random.nextInt(slow.stages);
        BigInteger[][] told = slow.amounts(stage);
        int settled = 0;
        for (int k = 0; k < 32; k++) {
            Check.due("amount() of " + text, x.amount(k % 8, k / 8, stage, 0), part(told[k], 0));
            Check.due("amount() of " + text, x.amount(k % 8, k / 8, stage, 1), part(told[k], 1));
            settled += told[k] != null ? 1 : 0;
        }
        Check.due("count(3) of " + text, x.count(3), settled);
    }
}
