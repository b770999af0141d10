/** The edges that the document's Terms name of a TALE's WORDS, SENTENCES and FAULTS: a test for each sentence. */
public final class EdgeWordsTest {
    private static final String ASK = "how many nuts has ann?";
    private static final String ONE = "ann has 1 nuts.";
    private static final String TEN = ONE.repeat(10);
    private static final String[] FORMS = {
        "ann has 5 nuts .", "ann has 5 more nuts than bob .", "ann has 5 fewer nuts than bob .",
        "ann has 5 times as many nuts as bob .", "ann and bob have 5 nuts .", "ann gives 5 nuts to bob .",
        "ann buys 5 nuts .", "ann eats 5 nuts ."};
    private static final String[] QUESTIONS = {
        "how many nuts has ann ?", "how many nuts have ann and bob ?", "how many nuts had ann ?"};

    public static void main(String[] args) {
        fourHundredBytes();
        blanks();
        stops();
        names();
        units();
        numbers();
        tenSentences();
        timesNumber();
        questions();
        unlikeNames();
        firstWordThatCannotStand();
        fourDigits();
        timesBehindOthers();
        secondNameLikeTheFirst();
        eleventhSentence();
        theEnd();
        words();
        Check.finish("EdgeWordsTest");
    }

    private static void fault(String text, int want) {
        Check.due("fault() of " + text, Check.faultOf(text), want);
    }

    private static void whole(String text) {
        fault(text, -1);
    }

    private static void fourHundredBytes() {
        Check.sentence("A TALE, bytes (400 at most)");
        String longest = FORMS[3].replace(" .", ".").replace('5', '9').repeat(10);
        TaleSums x = new TaleSums();
        String text = longest + " ".repeat(400 - longest.length() - ASK.length()) + ASK;
        Check.due("feed of 400", Check.feed(x, text), 400);
        Check.due("one more", x.feed(32, 0, 0, 0, 0), -1);
        Check.due("fault()", x.fault(), -1);
        Check.due("tale()", x.tale(), true);
        Check.due("sentences()", x.sentences(), 10);
        Check.due("the last one's place", x.sentence(9, 6), 9L * 36);
        fault(" ".repeat(378) + ASK.replace('?', '.'), 399);
        fault(" ".repeat(400), 400);
        fault("a".repeat(400), 0);
        fault(" ".repeat(397) + "ann", 400);
        fault("ann has" + " ".repeat(390) + "555", 400);
        whole(" ".repeat(378) + ASK);
        whole(ASK + "\n".repeat(378));
    }

    private static void blanks() {
        Check.sentence("WORDS with blanks (32, 10) between (none is needed but where two would be one)");
        String text = FORMS[0] + " " + QUESTIONS[0];
        for (String blank : new String[] {" ", "\n", "  ", "\n\n", " \n ", "\n \n"}) {
            whole(text.replace(" ", blank));
        }
        whole("ann has5 nuts.bob has6 more nuts than ann." + ASK);
        fault("annhas 5 nuts.", 0);
        fault("ann has 5nuts.", 8);
        fault("ann has 5more nuts than bob.", 8);
        fault("ann has 5 morenuts than bob.", 10);
        fault("howmany nuts has ann?", 0);
        fault("how manynuts has ann?", 4);
        fault("how many nutshas ann?", 9);
        fault("how many nuts hasann?", 14);
        for (int one = 1; one <= 255; one++) {
            boolean blank = one == 32 || one == 10;
            boolean letter = one >= 'a' && one <= 'z';
            fault("ann" + (char) one + "has 5 nuts." + ASK, blank ? -1 : letter ? 0 : 3);
        }
    }

    private static void stops() {
        Check.sentence(". and ? are WORDS by themselves");
        whole("ann has 5 nuts.bob has 5 nuts." + ASK);
        whole("ann has 5 nuts\n. bob has 5 nuts ." + ASK);
        fault("ann has 5 nuts..", 15);
        fault("ann has 5 nuts.?", 15);
        fault("ann has 5 nuts?.", 14);
        fault("ann has 5.", 9);
        fault("ann has 5.5 nuts.", 9);
        fault("ann.has", 3);
        fault("ann?", 3);
        fault(ASK + "?", 22);
        fault(ASK + ".", 22);
        fault(".", 0);
        fault("?", 0);
    }

    private static void names() {
        Check.sentence("NAMES: ann bob cat dan eve fay gus hal.");
        for (int i = 0; i < Check.NAMES.length; i++) {
            String name = Check.NAMES[i];
            String other = Check.NAMES[(i + 1) % 8];
            TaleSums x = Check.told(name + " and " + other + " have 1 nuts. how many nuts has " + name + "?");
            Check.due("the first name", x.sentence(0, 1), i);
            Check.due("the second name", x.sentence(0, 2), (i + 1) % 8);
            Check.due("the asked name", x.question(1), i);
            fault(name.substring(0, 2) + " has 1 nuts.", 0);
            fault(name.substring(1) + " has 1 nuts.", 0);
            fault(name + "s has 1 nuts.", 0);
            fault(name.toUpperCase() + " has 1 nuts.", 0);
            fault(name.substring(0, 2) + "z has 1 nuts.", 0);
            fault("z" + name.substring(1) + " has 1 nuts.", 0);
        }
        fault("ian has 1 nuts.", 0);
        fault("nuts has 1 nuts.", 0);
        fault("nnb has 1 nuts.", 0);
    }

    private static void units() {
        Check.sentence("UNITS: nuts figs pies eggs.");
        for (int i = 0; i < Check.UNITS.length; i++) {
            String unit = Check.UNITS[i];
            TaleSums x = Check.told("ann has 1 " + unit + ". how many " + unit + " has ann?");
            Check.due("the unit", x.sentence(0, 3), i);
            Check.due("the asked unit", x.question(3), i);
            fault("ann has 1 " + unit.substring(0, 3) + ".", 10);
            fault("ann has 1 " + unit.substring(1) + ".", 10);
            fault("ann has 1 " + unit + "s.", 10);
            fault("ann has 1 " + unit.toUpperCase() + ".", 10);
            fault("ann has 1 " + unit.substring(0, 3) + "z.", 10);
            fault("how many " + unit.substring(0, 3) + " has ann?", 9);
        }
        fault("ann has 1 plums.", 10);
        fault("ann has 1 bob.", 10);
        fault("ann has 1 utsf.", 10);
    }

    private static void numbers() {
        Check.sentence("NUMBERS: 1 to 3 digits (behind them no letter).");
        String[] good = {"0", "1", "9", "00", "01", "10", "99", "000", "001", "010", "100", "999"};
        String[] bad = {"", "0a", "1z", "10a", "999a", "9n9", "-1", "+1", "0000", "1000", "9999"};
        for (String number : good) {
            TaleSums x = Check.told("ann has " + number + " nuts." + ASK);
            Check.due("the number " + number, x.sentence(0, 4), Integer.parseInt(number));
        }
        for (String form : FORMS) {
            int at = form.indexOf('5');
            for (String number : bad) {
                String text = form.substring(0, at) + number + form.substring(at + 1);
                fault(text, number.isEmpty() ? at + 1 : at);
            }
        }
        for (char letter = 'a'; letter <= 'z'; letter++) {
            fault("ann has 5" + letter + " nuts.", 8);
        }
    }

    private static void tenSentences() {
        Check.sentence("SENTENCES (10 at most), then one QUESTION, then nothing:");
        for (int many = 0; many <= 11; many++) {
            TaleSums x = new TaleSums();
            Check.feed(x, ONE.repeat(many) + ASK);
            Check.due("fault() with " + many, x.fault(), many <= 10 ? -1 : 150);
            Check.due("tale() with " + many, x.tale(), many <= 10);
            Check.due("sentences()", x.sentences(), many <= 10 ? many : 0);
        }
        fault(ONE, 15);
        fault(ASK + ASK, 22);
        fault(ASK + ONE, 22);
        fault(ONE + ASK + " .", 38);
        fault(ASK + "!", 22);
        whole(ASK + " \n\n ");
    }

    private static void timesNumber() {
        Check.sentence("(the NUMBER 2 .. 9)");
        for (int number = 0; number <= 999; number++) {
            String ahead = "ann has " + number + " ";
            boolean taken = number >= 2 && number <= 9;
            fault(ahead + "times as many nuts as bob." + ASK, taken ? -1 : ahead.length());
        }
        whole("ann has 1 nuts.ann has 10 more nuts than bob." + ASK);
    }

    private static void questions() {
        Check.sentence("QUESTION: how many UNIT has NAME ?   or: how many UNIT have NAME and NAME ?   "
                + "or: how many UNIT had NAME ?");
        for (int sort = 0; sort < 3; sort++) {
            Check.due("the question's sort", Check.told(QUESTIONS[sort]).question(0), sort);
        }
        fault("how many nuts has ann and bob?", 22);
        fault("how many nuts had ann and bob?", 22);
        fault("how many nuts have ann?", 22);
        fault("how many nuts have ann and?", 26);
        fault("how many nuts has ann.", 21);
        fault("how many 5 nuts has ann?", 9);
    }

    private static void unlikeNames() {
        Check.sentence("In SENTENCES and QUESTION with two NAMES these are unlike.");
        int[] sorts = {1, 2, 3, 4, 5};
        for (String first : Check.NAMES) {
            for (String second : Check.NAMES) {
                boolean alike = first.equals(second);
                for (int sort : sorts) {
                    String text = FORMS[sort].replace("bob", "#").replace("ann", first);
                    fault(text.replace("#", second) + ASK, alike ? text.indexOf('#') : -1);
                }
                fault("how many nuts have " + first + " and " + second + "?", alike ? 27 : -1);
            }
        }
    }

    /** Each WORD of each form made wrong: the WORDS behind it, good or bad, don't count. */
    private static void firstWordThatCannotStand() {
        Check.sentence("FAULT: the first byte of the first WORD that can't stand where it stands");
        for (String form : FORMS) {
            wrongWords("", form);
            leftOut("", form);
            wrongWords(" bob buys 1 figs.\n", form);
        }
        for (String question : QUESTIONS) {
            wrongWords("", question);
            leftOut("", question);
            wrongWords(TEN, question);
        }
    }

    /** A WORD that is left out: the next one can't stand there, but a UNIT where more or fewer may stand. */
    private static void leftOut(String ahead, String form) {
        StringBuilder before = new StringBuilder(ahead);
        for (String word : (form + " how").split(" ")) {
            int from = before.length() - ahead.length() + word.length() + 1;
            if (from > form.length() + 1) {
                return;
            }
            String text = before + (form + " how").substring(from);
            boolean mayLack = word.equals("more") || word.equals("fewer");
            fault(text, mayLack ? text.indexOf("than") : before.length());
            before.append(word).append(' ');
        }
    }

    private static void wrongWords(String ahead, String form) {
        String[] words = form.split(" ");
        StringBuilder before = new StringBuilder(ahead);
        for (String word : words) {
            String rest = form.substring(before.length() - ahead.length() + word.length());
            for (String wrong : new String[] {"zed", "!", "9999", word.equals(".") ? "?" : "."}) {
                fault(before + wrong + rest, before.length());
                fault(before + wrong + " zed 7777 !", before.length());
            }
            before.append(word).append(' ');
        }
    }

    private static void fourDigits() {
        Check.sentence("(also a NUMBER of four digits or more;");
        String[] numbers = {"1000", "0000", "0005", "9999", "12345", "00000000005", "4294967301", "99999999999999999999"};
        for (String form : FORMS) {
            for (String number : numbers) {
                fault(form.replace("5", number) + ASK, form.indexOf('5'));
            }
            whole(form.replace("5", "005") + ASK);
        }
    }

    private static void timesBehindOthers() {
        Check.sentence("times behind a NUMBER that is not 2 .. 9;");
        String[] numbers = {"0", "1", "10", "11", "20", "99", "100", "999", "00", "01", "001", "012"};
        for (String number : numbers) {
            fault("ann has " + number + " times as many nuts as bob." + ASK, 9 + number.length());
        }
        whole("ann has 2 times as many nuts as bob." + ASK);
        whole("ann has 9 times as many nuts as bob." + ASK);
        fault("ann has 1000 times as many nuts as bob." + ASK, 8);
        fault("ann buys 5 times as many nuts as bob." + ASK, 11);
    }

    private static void secondNameLikeTheFirst() {
        Check.sentence("a second NAME like the first one;");
        fault("ann has 5 more nuts than ann." + ASK, 25);
        fault("ann has 5 fewer nuts than ann." + ASK, 26);
        fault("ann has 5 times as many nuts as ann." + ASK, 32);
        fault("ann and ann have 5 nuts." + ASK, 8);
        fault("ann gives 5 nuts to ann." + ASK, 20);
        fault("how many nuts have ann and ann?", 27);
        whole("ann has 1 nuts.ann has 1 nuts." + ASK);
    }

    private static void eleventhSentence() {
        Check.sentence("an eleventh SENTENCE's first WORD)");
        for (String form : FORMS) {
            fault(TEN + form + ASK, 150);
            fault(TEN + "\n " + form, 152);
            whole(ONE.repeat(9) + form + ASK);
        }
        fault(TEN + "ann", 150);
        fault(TEN + " zed", 151);
        whole(TEN + ASK);
    }

    private static void theEnd() {
        Check.sentence(", or the end.");
        fault("", 0);
        fault("\n", 1);
        for (String form : FORMS) {
            cutWords(form + " ");
        }
        for (String question : QUESTIONS) {
            cutWords(question);
        }
        fault(TEN, 150);
        fault(TEN + "how ", 154);
    }

    /** Ended ahead of each WORD, with the blank and without it. */
    private static void cutWords(String form) {
        for (int at = 0; at < form.length(); at++) {
            if (form.charAt(at) == ' ') {
                fault(form.substring(0, at), at);
                fault(form.substring(0, at) + "  ", at + 2);
            }
        }
    }

    private static void words() {
        Check.sentence("(A WORD is the longest row of letters a .. z, or digits and letters that begin with a digit, "
                + "or one other byte.)");
        fault("anna has 5 nuts.", 0);
        fault("ann2 has 5 nuts.", 3);
        fault("ann has 5 nuts2.", 14);
        fault("ann has 5 nuts 2x.", 15);
        fault("ann has 5x5 nuts.", 8);
        fault("ann has 05x nuts.", 8);
        fault("ann has5 nuts5", 13);
        for (int one = 1; one <= 255; one++) {
            char sign = (char) one;
            boolean letter = sign >= 'a' && sign <= 'z';
            boolean digit = sign >= '0' && sign <= '9';
            boolean blank = one == 32 || one == 10;
            if (!blank) {
                fault("ann has 5 nuts" + sign + "." + ASK, letter ? 10 : sign == '.' ? 15 : 14);
                fault("ann has 5" + sign + " nuts." + ASK, letter ? 8 : digit ? -1 : 9);
                fault(ASK + sign + sign, 22);
                fault(ASK + " " + sign, 23);
            }
        }
    }
}
