import java.math.BigInteger;
import java.util.ArrayList;
import java.util.Collections;
import java.util.List;
import java.util.Random;

/** The edges that the document's Terms name of AMOUNTS and what the FACTS settle: a test for each sentence. */
public final class EdgeSumsTest {
    private static final long UNTOLD = TaleSums.UNTOLD;
    private static final String ASK = "how many nuts has ann?";
    private static final String NO_ASK = "how many eggs has hal?";

    public static void main(String[] args) {
        fractionsAndBelowZero();
        stageZero();
        factSorts();
        lawsOfTheirStage();
        nextStages();
        givenBoughtEaten();
        askedStages();
        settled();
        firstQuarrel();
        answer();
        idle();
        fewest();
        leastByBits();
        lacking();
        strange();
        firstStrange();
        lowestTerms();
        largestNumbers();
        Check.finish("EdgeSumsTest");
    }

    private static void answered(String text, long top, long bottom) {
        Check.answers(Check.told(text), top, bottom);
    }

    private static void amount(TaleSums x, int[] which, long top, long bottom) {
        for (int what = 0; what < 2; what++) {
            Check.due("amount(" + which[0] + ", " + which[1] + ", " + which[2] + ", " + what + ")",
                    x.amount(which[0], which[1], which[2], what), what == 0 ? top : bottom);
        }
    }

    private static int[] at(int name, int unit, int stage) {
        return new int[] {name, unit, stage};
    }

    private static void fractionsAndBelowZero() {
        Check.sentence("AMOUNTS: of each NAME and UNIT at each STAGE a number, perhaps with a fraction, below 0 too.");
        TaleSums x = Check.told("ann has 1 nuts.ann has 2 times as many nuts as bob.ann eats 2 nuts."
                + "ann has 3 times as many nuts as cat." + ASK);
        amount(x, at(0, 0, 0), 1, 1);
        amount(x, at(1, 0, 0), 1, 2);
        amount(x, at(0, 0, 1), -1, 1);
        amount(x, at(1, 0, 1), 1, 2);
        amount(x, at(2, 0, 0), -1, 3);
        for (int name = 0; name < 8; name++) {
            for (int unit = 0; unit < 4; unit++) {
                TaleSums one = Check.told(Check.NAMES[name] + " has 7 " + Check.UNITS[unit] + "." + ASK);
                for (int k = 0; k < 32; k++) {
                    boolean told = k == unit * 8 + name;
                    amount(one, at(k % 8, k / 8, 0), told ? 7 : UNTOLD, told ? 1 : UNTOLD);
                }
            }
        }
    }

    private static void stageZero() {
        Check.sentence("STAGE 0 is ahead of all.");
        answered("ann buys 3 nuts.ann has 3 nuts.how many nuts had ann?", 0, 1);
        answered("ann eats 3 nuts.ann has 3 nuts.how many nuts had ann?", 6, 1);
        answered("ann gives 3 nuts to bob.bob has 3 nuts.how many nuts had bob?", 0, 1);
        amount(Check.told("ann buys 3 nuts.ann has 3 nuts." + ASK), at(0, 0, 0), 0, 1);
        Check.due("the first sentence's stage", Check.told("ann buys 3 nuts." + ASK).sentence(0, 5), 0);
    }

    private static void factSorts() {
        Check.sentence("FACTS are SENTENCES of sorts 0 .. 4:");
        String[] sentences = {"ann has 2 nuts.", "ann has 2 more nuts than bob.", "ann has 2 fewer nuts than bob.",
            "ann has 2 times as many nuts as bob.", "ann and bob have 2 nuts.", "ann gives 2 nuts to bob.",
            "ann buys 2 nuts.", "ann eats 2 nuts."};
        for (int sort = 0; sort < sentences.length; sort++) {
            TaleSums x = Check.told(sentences[sort] + ASK);
            Check.due("sort", x.sentence(0, 0), sort);
            Check.due("facts of sort " + sort, x.count(1), sort <= 4 ? 1 : 0);
            TaleSums more = Check.told(sentences[sort] + "ann has 2 nuts." + ASK);
            Check.due("facts with one of sort " + sort, more.count(1), sort <= 4 ? 2 : 1);
            Check.due("only a fact is idle", more.idle() & 1, sort <= 4 ? 1 : 0);
        }
    }

    private static void lawsOfTheirStage() {
        Check.sentence("a LAW each about AMOUNTS of the STAGE that is then;");
        String first = "bob has 4 nuts.ann buys 10 nuts.";
        String had = "how many nuts had ann?";
        answered(first + "ann has 12 nuts." + had, 2, 1);
        answered(first + "ann has 3 more nuts than bob." + had, -3, 1);
        answered(first + "ann has 3 fewer nuts than bob." + had, -9, 1);
        answered(first + "ann has 3 times as many nuts as bob." + had, 2, 1);
        answered(first + "ann and bob have 3 nuts." + had, -11, 1);
        String second = "ann has 30 nuts.bob buys 10 nuts.";
        String hadBob = "how many nuts had bob?";
        answered(second + "ann has 3 more nuts than bob." + hadBob, 17, 1);
        answered(second + "ann has 3 fewer nuts than bob." + hadBob, 23, 1);
        answered(second + "ann has 3 times as many nuts as bob." + hadBob, 0, 1);
        answered(second + "ann and bob have 3 nuts." + hadBob, -37, 1);
        answered("ann has 30 nuts.ann has 3 more nuts than bob.bob buys 10 nuts." + hadBob, 27, 1);
    }

    private static void nextStages() {
        Check.sentence("sorts 5 .. 7 bring the next STAGE:");
        String[] brings = {"ann gives 1 nuts to bob.", "ann buys 1 nuts.", "ann eats 1 nuts.", "ann buys 0 nuts.",
            "hal eats 1 eggs."};
        for (String sentence : brings) {
            TaleSums x = Check.told(sentence.repeat(10) + NO_ASK);
            Check.due("ten of them: stages", x.count(2), 11);
            Check.due("the question's stage", x.question(4), 10);
            for (int i = 0; i < 10; i++) {
                Check.due("the stage there", x.sentence(i, 5), i);
            }
        }
        TaleSums facts = Check.told("ann has 1 nuts.ann has 1 more nuts than bob.bob has 1 fewer nuts than ann."
                + "cat has 2 times as many nuts as ann.ann and bob have 1 nuts." + ASK);
        Check.due("facts bring none", facts.count(2), 1);
        Check.due("the last fact's stage", facts.sentence(4, 5), 0);
        TaleSums last = Check.told("ann has 9 nuts." + "ann eats 1 nuts.".repeat(9) + ASK);
        for (int stage = 0; stage <= 9; stage++) {
            amount(last, at(0, 0, stage), 9 - stage, 1);
        }
        amount(last, at(0, 0, 10), UNTOLD, UNTOLD);
    }

    private static void givenBoughtEaten() {
        Check.sentence("AMOUNTS then are as ahead, but less or more by what is given, bought, eaten.");
        String told = "ann has 10 nuts.bob has 20 nuts.cat has 30 nuts.ann has 40 figs.";
        moved(told + "ann gives 0 nuts to bob.", 0, 0);
        moved(told + "ann gives 999 nuts to bob.", -999, 999);
        moved(told + "bob gives 10 nuts to ann.", 10, -10);
        moved(told + "ann buys 999 nuts.", 999, 0);
        moved(told + "ann buys 0 nuts.", 0, 0);
        moved(told + "bob eats 999 nuts.", 0, -999);
        moved(told + "bob eats 0 nuts.", 0, 0);
        moved(told + "dan gives 5 nuts to eve.", 0, 0);
        moved(told + "bob buys 5 figs.", 0, 0);
        answered("ann has 0 nuts." + "ann buys 999 nuts.".repeat(9) + ASK, 8991, 1);
        answered("ann has 0 nuts." + "ann gives 999 nuts to bob.".repeat(9) + ASK, -8991, 1);
    }

    private static void moved(String text, int ann, int bob) {
        TaleSums x = Check.told(text + ASK);
        for (int stage = 0; stage < 2; stage++) {
            amount(x, at(0, 0, stage), 10 + stage * ann, 1);
            amount(x, at(1, 0, stage), 20 + stage * bob, 1);
            amount(x, at(2, 0, stage), 30, 1);
            amount(x, at(0, 1, stage), 40, 1);
        }
    }

    private static void askedStages() {
        Check.sentence("The QUESTION asks an AMOUNT, or the sum of two, of the last STAGE; with had that of STAGE 0.");
        String text = "ann has 5 nuts.bob has 7 nuts.ann buys 1 nuts.ann buys 2 nuts.bob eats 9 nuts.ann has 8 nuts.";
        answered(text + "how many nuts has ann?", 8, 1);
        answered(text + "how many nuts has bob?", -2, 1);
        answered(text + "how many nuts have ann and bob?", 6, 1);
        answered(text + "how many nuts had ann?", 5, 1);
        answered(text + "how many nuts had bob?", 7, 1);
        Check.due("stage of has", Check.told(text + "how many nuts has ann?").question(4), 3);
        Check.due("stage of have", Check.told(text + "how many nuts have ann and bob?").question(4), 3);
        Check.due("stage of had", Check.told(text + "how many nuts had ann?").question(4), 0);
        answered("ann has 5 nuts.how many nuts has ann?", 5, 1);
        answered("ann has 5 nuts.how many nuts had ann?", 5, 1);
    }

    private static void open(String text) {
        answered(text, UNTOLD, UNTOLD);
    }

    private static void settled() {
        Check.sentence("SETTLED by a set of FACTS is what is alike by all AMOUNTS that keep their LAWS.");
        open("ann and bob have 0 nuts." + ASK);
        open("ann and bob have 1 nuts." + ASK);
        open("ann has 0 more nuts than bob." + ASK);
        open("ann has 0 more nuts than bob.how many nuts have ann and bob?");
        open("ann has 9 times as many nuts as bob." + ASK);
        open("ann has 1 more nuts than bob.bob has 1 fewer nuts than ann." + ASK);
        open("ann has 1 nuts.how many nuts have ann and bob?");
        open(ASK);
        answered("ann and bob have 0 nuts.how many nuts have bob and ann?", 0, 1);
        answered("ann has 0 more nuts than bob.ann has 2 times as many nuts as bob." + ASK, 0, 1);
        answered("ann has 9 times as many nuts as bob.bob has 9 times as many nuts as ann." + ASK, 0, 1);
        answered("ann and bob have 1 nuts.ann has 0 more nuts than bob." + ASK, 1, 2);
        TaleSums x = Check.told("ann and bob have 0 nuts." + ASK);
        amount(x, at(0, 0, 0), UNTOLD, UNTOLD);
        Check.due("nothing settled", x.count(3), 0);
    }

    private static void quarrels(String text, int want) {
        Check.due("quarrel() of " + text, Check.told(text).quarrel(), want);
    }

    private static void firstQuarrel() {
        Check.sentence("A QUARREL: FACTS that no AMOUNTS keep; told is the first FACT (by its SENTENCE) by which, "
                + "with all ahead of it, there is one.");
        quarrels("ann has 1 nuts.ann has 2 nuts.ann has 3 nuts." + ASK, 1);
        quarrels("ann has 1 nuts.".repeat(9) + "ann has 2 nuts." + ASK, 9);
        quarrels("ann has 1 nuts.".repeat(10) + ASK, -1);
        quarrels("ann has 1 nuts.ann buys 1 nuts.ann has 1 nuts." + ASK, 2);
        quarrels("ann has 1 nuts.ann buys 1 nuts.ann has 2 nuts." + ASK, -1);
        quarrels("ann has 1 nuts.ann has 1 figs.bob has 2 nuts." + ASK, -1);
        quarrels("ann has 1 nuts.bob has 1 nuts.ann and bob have 3 nuts." + ASK, 2);
        quarrels("ann has 1 nuts.bob has 1 nuts.ann and bob have 2 nuts." + ASK, -1);
        quarrels("ann has 2 times as many nuts as bob.ann has 3 times as many nuts as bob.ann has 1 nuts." + ASK, 2);
        quarrels("ann has 2 times as many nuts as bob.ann has 3 times as many nuts as bob.ann has 0 nuts." + ASK, -1);
        quarrels("ann has 0 fewer nuts than bob.bob has 0 more nuts than ann." + ASK, -1);
        quarrels("ann has 1 fewer nuts than bob.bob has 0 more nuts than ann." + ASK, 1);
        quarrels("hal has 1 eggs.hal has 2 eggs.ann has 1 nuts.ann has 2 nuts." + ASK, 1);
        quarrels("ann has 0 nuts.ann eats 999 nuts." + ASK, -1);
        quarrels("ann has 1 nuts.ann has 2 times as many nuts as bob." + ASK, -1);
        quarrels(ASK, -1);
    }

    private static void answer() {
        Check.sentence("The ANSWER is what the QUESTION asks, if there is no QUARREL and it is SETTLED by all FACTS.");
        answered("ann has 4 nuts." + ASK, 4, 1);
        open("ann has 4 nuts.hal has 1 eggs.hal has 2 eggs." + ASK);
        open("ann has 4 nuts.ann has 5 nuts." + ASK);
        open("bob has 4 nuts." + ASK);
        open("ann has 4 figs." + ASK);
        answered("bob has 4 nuts.ann has 1 more nuts than bob." + ASK, 5, 1);
    }

    private static void idles(String text, int want) {
        Check.due("idle() of " + text, Check.told(text).idle(), want);
    }

    private static void idle() {
        Check.sentence("IDLE is a FACT, if there is an ANSWER and it is SETTLED by all others, too.");
        idles("ann has 5 nuts." + ASK, 0);
        idles("ann has 5 nuts.ann has 5 nuts." + ASK, 3);
        idles("ann has 5 nuts.".repeat(10) + ASK, 1023);
        idles("ann has 5 nuts." + "hal has 1 eggs.".repeat(9) + ASK, 1022);
        idles("ann eats 5 nuts.bob has 5 nuts.ann has 5 nuts.ann buys 1 nuts." + ASK, 2);
        idles("bob has 5 nuts.bob has 5 nuts." + ASK, 0);
        idles("ann has 5 nuts.ann has 6 nuts." + ASK, 0);
        idles("ann has 5 nuts.ann has 5 nuts.hal has 1 eggs.hal has 2 eggs." + ASK, 0);
        idles("bob has 1 nuts.ann has 1 more nuts than bob." + ASK, 0);
        idles("bob has 1 nuts.ann has 1 more nuts than bob.ann has 2 nuts." + ASK, 7);
        idles("ann has 5 figs.ann has 5 nuts." + ASK, 1);
        idles("ann buys 5 nuts.ann has 5 nuts." + ASK, 0);
        idles(ASK, 0);
    }

    private static void enough(String text, int want) {
        Check.due("enough() of " + text, Check.told(text).enough(), want);
    }

    private static void fewest() {
        Check.sentence("ENOUGH: the sets of FACTS by which it is SETTLED; told is one of the fewest;");
        enough("bob has 1 nuts.ann has 1 more nuts than bob.ann has 2 nuts." + ASK, 4);
        enough("bob has 1 nuts.ann has 1 more nuts than bob." + "hal has 1 figs.".repeat(7) + "ann has 2 nuts." + ASK, 512);
        enough("ann buys 1 nuts.".repeat(9) + "ann has 2 nuts." + ASK, 512);
        enough("cat has 1 nuts.bob has 1 more nuts than cat.ann has 1 more nuts than bob.dan has 1 nuts."
                + "ann has 2 more nuts than dan." + ASK, 8 + 16);
        enough("ann has 5 figs.ann has 5 nuts.ann has 5 nuts." + ASK, 2);
        enough("ann buys 5 nuts.ann has 5 nuts.ann has 5 nuts." + ASK, 2);
        enough("ann has 5 nuts.ann has 6 nuts." + ASK, -1);
        enough("bob has 1 nuts." + ASK, -1);
        enough(ASK, -1);
        StringBuilder eight = new StringBuilder("hal has 1 nuts.");
        for (int i = 0; i < 7; i++) {
            eight.append(Check.NAMES[i]).append(" has 1 more nuts than ").append(Check.NAMES[i + 1]).append('.');
        }
        enough(eight + ASK, 255);
        enough("ann buys 1 nuts.ann buys 1 figs." + eight + ASK, 1020);
    }

    private static void leastByBits() {
        Check.sentence("of several the least by bits (SENTENCE i bit i).");
        enough("ann has 5 nuts.".repeat(10) + ASK, 1);
        enough("bob has 5 nuts.ann has 5 nuts.ann has 5 nuts." + ASK, 2);
        enough("ann has 1 more nuts than bob.ann has 1 more nuts than cat.cat has 1 nuts.bob has 1 nuts." + ASK, 6);
        enough("ann has 1 more nuts than bob.bob has 1 nuts.ann has 1 more nuts than cat.cat has 1 nuts." + ASK, 3);
        enough("ann has 1 more nuts than bob.ann eats 1 nuts.bob has 1 nuts.bob has 1 nuts." + ASK, 5);
    }

    private static void lacks(String text, int want) {
        Check.due("lacking() of " + text, Check.told(text).lacking(), want);
    }

    private static void lacking() {
        Check.sentence("LACKING, if there is no QUARREL and no ANSWER: the first NAME such that its AMOUNT of the QUESTION's "
                + "UNIT at STAGE 0, if it were told, would settle it (none may).");
        lacks(ASK, 0);
        lacks(NO_ASK, 7);
        lacks("how many eggs had hal?", 7);
        lacks("how many eggs have gus and hal?", -1);
        lacks("hal has 1 eggs.how many eggs have gus and hal?", 6);
        lacks("gus has 1 eggs.how many eggs have gus and hal?", 7);
        lacks("gus has 1 nuts.how many eggs have gus and hal?", -1);
        lacks("hal has 1 more eggs than ann." + NO_ASK, 0);
        lacks("hal has 1 more nuts than ann." + NO_ASK, 7);
        lacks("hal and bob have 1 eggs.hal eats 1 eggs.hal has 2 times as many eggs as cat." + NO_ASK, 1);
        lacks("ann has 1 eggs." + NO_ASK, 7);
        lacks("hal has 1 eggs." + NO_ASK, -1);
        lacks("ann has 1 nuts.ann has 2 nuts." + NO_ASK, -1);
        lacks("hal has 1 eggs.hal has 2 eggs." + NO_ASK, -1);
        lacks("ann has 2 times as many eggs as bob.cat and dan have 3 eggs.how many eggs have ann and bob?", 0);
        lacks("ann has 2 times as many eggs as bob.cat and dan have 3 eggs.how many eggs have ann and cat?", -1);
    }

    private static void strangeAt(String text, int name, int unit, int stage) {
        TaleSums x = Check.told(text);
        int[] due = {name, unit, stage};
        for (int what = 0; what < 3; what++) {
            Check.due("strange(" + what + ") of " + text, x.strange(what), due[what]);
        }
    }

    private static void nothingStrange(String text) {
        strangeAt(text, -1, -1, -1);
    }

    private static void strange() {
        Check.sentence("STRANGE: an AMOUNT of any NAME, UNIT, STAGE that is SETTLED and below 0 or no whole number:");
        nothingStrange("ann has 0 nuts." + ASK);
        nothingStrange("ann has 1 nuts.ann eats 1 nuts." + ASK);
        strangeAt("ann has 1 nuts.ann eats 2 nuts." + ASK, 0, 0, 1);
        strangeAt("ann has 0 nuts.bob has 1 fewer nuts than ann." + ASK, 1, 0, 0);
        strangeAt("ann has 1 nuts.ann has 2 times as many nuts as bob." + ASK, 1, 0, 0);
        nothingStrange("ann has 2 nuts.ann has 2 times as many nuts as bob." + ASK);
        nothingStrange("ann eats 9 nuts." + ASK);
        nothingStrange("ann and bob have 1 nuts.ann eats 9 nuts." + ASK);
        nothingStrange(ASK);
        strangeAt("hal has 8 eggs." + "hal eats 1 eggs.".repeat(9) + ASK, 7, 3, 9);
        nothingStrange("hal has 9 eggs." + "hal eats 1 eggs.".repeat(9) + ASK);
        strangeAt("hal has 9 eggs.ann has 2 nuts.hal buys 1 eggs.hal gives 11 eggs to ann.hal buys 5 eggs." + ASK, 7, 3, 2);
    }

    private static void firstStrange() {
        Check.sentence("told is the first one by STAGES, UNITS, NAMES (not with a QUARREL).");
        String all = "ann has 0 nuts.hal has 0 nuts.ann has 0 eggs.";
        strangeAt(all + "hal eats 1 nuts.ann eats 1 nuts.ann eats 1 eggs." + ASK, 7, 0, 1);
        strangeAt(all + "ann eats 1 eggs.ann eats 1 nuts.hal eats 1 nuts." + ASK, 0, 3, 1);
        strangeAt(all + "bob has 1 eggs.bob has 2 times as many eggs as cat.ann eats 1 nuts." + ASK, 2, 3, 0);
        strangeAt("hal has 1 figs.hal has 2 times as many figs as gus.hal has 3 times as many figs as ann."
                + "hal has 1 nuts.hal has 2 times as many nuts as fay." + ASK, 5, 0, 0);
        strangeAt("hal has 1 figs.hal has 2 times as many figs as gus.hal has 3 times as many figs as ann." + ASK, 0, 1, 0);
        nothingStrange("ann has 0 nuts.ann eats 1 nuts.bob has 1 figs.bob has 2 figs." + ASK);
        nothingStrange("ann has 0 nuts.ann eats 1 nuts.ann has 2 nuts." + ASK);
    }

    private static void lowestTerms() {
        Check.sentence("Fractions are told in lowest terms: what 0 the numerator, 1 the denominator (above 0; of 0: 1).");
        String times = "ann has 6 times as many nuts as bob.how many nuts has bob?";
        answered("ann has 4 nuts." + times, 2, 3);
        answered("ann has 6 nuts." + times, 1, 1);
        answered("ann has 5 nuts." + times, 5, 6);
        answered("ann has 0 nuts." + times, 0, 1);
        answered("ann has 999 nuts." + times, 333, 2);
        answered("ann has 0 nuts.ann eats 4 nuts." + times, -2, 3);
        answered("ann has 0 nuts.ann eats 6 nuts." + times, -1, 1);
        for (String first : Check.NAMES) {
            for (String second : Check.NAMES) {
                if (!first.equals(second)) {
                    String other = times.replace("bob", "#").replace("ann", first).replace("#", second);
                    answered(first + " has 4 nuts." + other, 2, 3);
                    answered(other.replace("how", first + " has 18 nuts.how"), 3, 1);
                }
            }
        }
        TaleSums x = Check.told("ann has 0 nuts.ann eats 4 nuts." + times);
        amount(x, at(1, 0, 0), -2, 3);
        amount(x, at(1, 0, 1), -2, 3);
        amount(x, at(0, 0, 0), 0, 1);
        answered("bob has 9 fewer nuts than ann.ann has 4 times as many nuts as bob." + ASK, 12, 1);
        answered("bob has 7 more nuts than ann.bob has 4 times as many nuts as ann." + ASK, 7, 3);
        answered("bob has 7 fewer nuts than ann.bob has 4 times as many nuts as ann." + ASK, -7, 3);
        StringBuilder chain = new StringBuilder("ann has 1 nuts.");
        for (int i = 0; i < 7; i++) {
            chain.append(Check.NAMES[i]).append(" has 9 times as many nuts as ").append(Check.NAMES[i + 1]).append('.');
        }
        answered(chain + "how many nuts has hal?", 1, 4782969);
        answered(chain + "hal buys 999 nuts.how many nuts has hal?", 999L * 4782969 + 1, 4782969);
        answered(chain + "how many nuts have gus and hal?", 10, 4782969);
    }

    /** Rounds of eight nines with the largest gifts bring the largest products: none may wrap around. */
    private static void largestNumbers() {
        Check.sentence("the question answered exactly if the tale settles it, else what lacks;");
        Random random = new Random(8);
        for (int tale = 0; tale < 200; tale++) {
            List<String> names = new ArrayList<>(List.of(Check.NAMES));
            Collections.shuffle(names, random);
            StringBuilder text = new StringBuilder(names.get(0) + " buys 999 nuts.");
            for (int i = 0; i < 8; i++) {
                if (i == 2 + tale % 6) {
                    text.append(names.get(i)).append(" gives 999 nuts to ").append(names.get(tale % 2)).append('.');
                }
                text.append(names.get(i)).append(" has ").append(random.nextInt(4) == 0 ? 8 : 9)
                        .append(" times as many nuts as ").append(names.get((i + 1) % 8)).append('.');
            }
            text.append("how many nuts have ").append(names.get(3)).append(" and ").append(names.get(7)).append('?');
            BigInteger[] exact = new SlowTale(text.toString()).answer();
            answered(text.toString(), exact[0].longValueExact(), exact[1].longValueExact());
        }
    }
}
