import java.util.Arrays;
import java.util.NoSuchElementException;

/** A reader of little tales that are sums: see the document's promises 1 to 18. */
public final class TaleSums {
    public static final int NONE = -1;
    public static final long UNTOLD = -1000000000000L;

    private static final int NAMES = 8;
    private static final int UNITS = 4;
    private static final String NAME_LIST = "annbobcatdanevefaygushal";
    private static final String UNIT_LIST = "nutsfigspieseggs";
    private static final int NAME_LETTERS = 3;
    private static final int UNIT_LETTERS = 4;

    private static final int MOST_BYTES = 400;
    private static final int MOST_SENTENCES = 10;
    private static final int MOST_DIGITS = 3;
    private static final int MOST_CHANGES = 50;
    private static final int MOST_NUMBER = 999;
    private static final int LEAST_TIMES = 2;
    private static final int MOST_TIMES = 9;

    private static final int HAS = 0;
    private static final int MORE = 1;
    private static final int FEWER = 2;
    private static final int TIMES = 3;
    private static final int TOGETHER = 4;
    private static final int GIVES = 5;
    private static final int BUYS = 6;
    private static final int EATS = 7;

    private static final int ASKS_HAS = 0;
    private static final int ASKS_HAVE = 1;
    private static final int ASKS_HAD = 2;

    // The parts of a SENTENCE, numbered as sentence() tells them; the QUESTION has its own last one.
    private static final int SORT = 0;
    private static final int FIRST = 1;
    private static final int SECOND = 2;
    private static final int UNIT = 3;
    private static final int NUMBER = 4;
    private static final int STAGE = 5;
    private static final int START = 6;
    private static final int PARTS = 7;
    private static final int ASKED_STAGE = 4;
    private static final int ASKED_PARTS = 5;

    // The columns of a law: a weight for each NAME, one for the sum that is asked, and what they make.
    private static final int SOUGHT = NAMES;
    private static final int MADE = NAMES + 1;
    private static final int COLUMNS = NAMES + 2;

    // Euclid's steps for two longs stay far below.
    private static final int MOST_GCD_STEPS = 200;

    private final Tape tape;
    private final Reader reader;
    private final Changes changes;
    private final Sums sums;
    private Story story;
    private Story draft;

    public TaleSums() {
        tape = new Tape();
        reader = new Reader(tape);
        changes = new Changes();
        story = new Story();
        draft = new Story();
        sums = new Sums(story);
    }

    public int feed(int a, int b, int c, int d, int e) {
        int more = Tape.filledBytes(a) + Tape.filledBytes(b) + Tape.filledBytes(c)
                + Tape.filledBytes(d) + Tape.filledBytes(e);
        if (tape.size() + more > MOST_BYTES) {
            return NONE;
        }
        tape.append(a);
        tape.append(b);
        tape.append(c);
        tape.append(d);
        tape.append(e);
        return tape.size();
    }

    public boolean end(int n) {
        return tape.cut(n);
    }

    public int fault() {
        return reader.read(draft);
    }

    public boolean tale() {
        if (reader.read(draft) != NONE) {
            return false;
        }
        Story earlier = story;
        story = draft;
        draft = earlier;
        tape.cut(0);
        changes.clear();
        sums.begin(story);
        return true;
    }

    public int sentences() {
        return story.size();
    }

    public int sentence(int i, int what) throws NoSuchElementException {
        if (!story.has(i) || what < 0 || what >= PARTS) {
            throw new NoSuchElementException();
        }
        return story.part(i, what);
    }

    public int question(int what) {
        return story.asked(what);
    }

    public int quarrel() {
        return sums.quarrelAt();
    }

    public long answer(int what) {
        return sums.answerPart(what);
    }

    public long amount(int name, int unit, int stage, int what) {
        return sums.amountPart(name, unit, stage, what);
    }

    public int idle() {
        return sums.idleFacts();
    }

    public int enough() {
        return sums.fewestFacts();
    }

    public int lacking() {
        return sums.lackingName();
    }

    public int strange(int what) {
        return sums.strangePart(what);
    }

    public boolean put(int sentence, int number) {
        if (!story.allows(sentence, number)) {
            return false;
        }
        changes.keep(sentence, story.part(sentence, NUMBER));
        story.setNumber(sentence, number);
        sums.solve();
        return true;
    }

    public int undo() {
        if (changes.size() == 0) {
            return NONE;
        }
        int sentence = changes.lastSentence();
        story.setNumber(sentence, changes.lastNumber());
        changes.dropLast();
        sums.solve();
        return sentence;
    }

    public int count(int what) {
        switch (what) {
            case 0:
                return tape.size();
            case 1:
                return Integer.bitCount(story.facts());
            case 2:
                return story.stages();
            case 3:
                return sums.settledAtFirst();
            case 4:
                return changes.size();
            default:
                return NONE;
        }
    }

    /** The bytes fed so far, and the WORD of them that is read next: bytes from .. to - 1. */
    private static final class Tape {
        private final int[] bytes = new int[MOST_BYTES];
        private int length = 0;
        private int from = 0;
        private int to = 0;

        static int filledBytes(int number) {
            int filled = 0;
            for (int shift = 24; shift >= 0; shift -= 8) {
                if (((number >>> shift) & 255) != 0) {
                    filled++;
                }
            }
            return filled;
        }

        int size() {
            return length;
        }

        void append(int number) {
            for (int shift = 24; shift >= 0; shift -= 8) {
                int one = (number >>> shift) & 255;
                if (one != 0 && length < MOST_BYTES) {
                    bytes[length] = one;
                    length++;
                }
            }
        }

        boolean cut(int n) {
            if (n < 0 || n > length) {
                return false;
            }
            length = n;
            rewind();
            return true;
        }

        void rewind() {
            to = 0;
            advance();
        }

        private void advance() {
            int place = to;
            while (place < length && (bytes[place] == ' ' || bytes[place] == 10)) {
                place++;
            }
            from = place;
            if (place < length) {
                boolean digits = isDigit(bytes[place]);
                boolean row = digits || isLetter(bytes[place]);
                place++;
                while (row && place < length
                        && (isLetter(bytes[place]) || (digits && isDigit(bytes[place])))) {
                    place++;
                }
            }
            to = place;
        }

        private static boolean isLetter(int one) {
            return one >= 'a' && one <= 'z';
        }

        private static boolean isDigit(int one) {
            return one >= '0' && one <= '9';
        }

        /** Where the next WORD begins, or the end. */
        int start() {
            return from;
        }

        boolean isOver() {
            return from >= length;
        }

        boolean take(String word) {
            if (find(word, 1, word.length()) == NONE) {
                return false;
            }
            advance();
            return true;
        }

        int takeName(int unlike) {
            int name = find(NAME_LIST, NAMES, NAME_LETTERS);
            if (name == NONE || name == unlike) {
                return NONE;
            }
            advance();
            return name;
        }

        int takeUnit() {
            int unit = find(UNIT_LIST, UNITS, UNIT_LETTERS);
            if (unit != NONE) {
                advance();
            }
            return unit;
        }

        /** Which entry of a list, whose entries have so many letters each, the next WORD is. */
        private int find(String list, int entries, int letters) {
            if (to - from != letters || to > length || entries * letters > list.length()) {
                return NONE;
            }
            for (int i = 0; i < entries; i++) {
                int alike = 0;
                while (alike < letters && bytes[from + alike] == list.charAt(i * letters + alike)) {
                    alike++;
                }
                if (alike == letters) {
                    return i;
                }
            }
            return NONE;
        }

        int takeNumber() {
            if (from >= to || to > length || to - from > MOST_DIGITS) {
                return NONE;
            }
            int number = 0;
            for (int place = from; place < to; place++) {
                if (!isDigit(bytes[place])) {
                    return NONE;
                }
                number = number * 10 + (bytes[place] - '0');
            }
            advance();
            return number;
        }
    }

    /** Reads the TAPE into a story. A WORD is taken only where it may stand, so the first one left is the FAULT. */
    private static final class Reader {
        private final Tape tape;

        Reader(Tape tape) {
            this.tape = tape;
        }

        /** The FAULT, or NONE if the story is whole. */
        int read(Story story) {
            story.clear();
            tape.rewind();
            for (int i = 0; i <= MOST_SENTENCES; i++) {
                if (tape.take("how")) {
                    boolean whole = readQuestion(story) && tape.isOver();
                    return whole ? NONE : tape.start();
                }
                if (i == MOST_SENTENCES || !readSentence(story)) {
                    break;
                }
            }
            return tape.start();
        }

        private boolean readSentence(Story story) {
            int start = tape.start();
            int first = tape.takeName(NONE);
            if (first == NONE) {
                return false;
            }
            story.open(first, start);
            boolean read = false;
            if (tape.take("has")) {
                read = readHas(story, first);
            } else if (tape.take("and")) {
                read = readSecond(story, first) && tape.take("have") && readPlain(story, TOGETHER);
            } else if (tape.take("gives")) {
                read = readPlain(story, GIVES) && tape.take("to") && readSecond(story, first);
            } else if (tape.take("buys")) {
                read = readPlain(story, BUYS);
            } else if (tape.take("eats")) {
                read = readPlain(story, EATS);
            }
            if (!read || !tape.take(".")) {
                return false;
            }
            story.close();
            return true;
        }

        private boolean readHas(Story story, int first) {
            int number = tape.takeNumber();
            if (number == NONE) {
                return false;
            }
            story.tell(NUMBER, number);
            if (tape.take("more")) {
                story.tell(SORT, MORE);
                return readUnit(story) && tape.take("than") && readSecond(story, first);
            }
            if (tape.take("fewer")) {
                story.tell(SORT, FEWER);
                return readUnit(story) && tape.take("than") && readSecond(story, first);
            }
            if (number >= LEAST_TIMES && number <= MOST_TIMES && tape.take("times")) {
                story.tell(SORT, TIMES);
                return tape.take("as") && tape.take("many") && readUnit(story)
                        && tape.take("as") && readSecond(story, first);
            }
            story.tell(SORT, HAS);
            return readUnit(story);
        }

        private boolean readPlain(Story story, int sort) {
            int number = tape.takeNumber();
            if (number == NONE) {
                return false;
            }
            story.tell(SORT, sort);
            story.tell(NUMBER, number);
            return readUnit(story);
        }

        private boolean readUnit(Story story) {
            int unit = tape.takeUnit();
            story.tell(UNIT, unit);
            return unit != NONE;
        }

        private boolean readSecond(Story story, int first) {
            int second = tape.takeName(first);
            story.tell(SECOND, second);
            return second != NONE;
        }

        private boolean readQuestion(Story story) {
            int unit = tape.take("many") ? tape.takeUnit() : NONE;
            int sort = unit == NONE ? NONE : takeAskedSort();
            int first = sort == NONE ? NONE : tape.takeName(NONE);
            if (first == NONE) {
                return false;
            }
            int second = NONE;
            if (sort == ASKS_HAVE) {
                second = tape.take("and") ? tape.takeName(first) : NONE;
                if (second == NONE) {
                    return false;
                }
            }
            if (!tape.take("?")) {
                return false;
            }
            story.ask(sort, first, second, unit);
            return true;
        }

        private int takeAskedSort() {
            if (tape.take("has")) {
                return ASKS_HAS;
            }
            if (tape.take("have")) {
                return ASKS_HAVE;
            }
            return tape.take("had") ? ASKS_HAD : NONE;
        }
    }

    /** The SENTENCES and the QUESTION of a TALE. */
    private static final class Story {
        private final int[][] parts = new int[MOST_SENTENCES][PARTS];
        private final int[] asked = new int[ASKED_PARTS];
        private int size = 0;
        private int lastStage = 0;
        private int factBits = 0;
        private boolean told = false;

        void clear() {
            size = 0;
            lastStage = 0;
            factBits = 0;
            told = false;
        }

        /** The SENTENCE that is being read stands behind the others, and counts once it is closed. */
        void open(int first, int start) {
            tell(SORT, NONE);
            tell(FIRST, first);
            tell(SECOND, NONE);
            tell(UNIT, NONE);
            tell(NUMBER, 0);
            tell(STAGE, lastStage);
            tell(START, start);
        }

        void tell(int what, int value) {
            if (size < MOST_SENTENCES && what >= 0 && what < PARTS) {
                parts[size][what] = value;
            }
        }

        void close() {
            if (size >= MOST_SENTENCES) {
                return;
            }
            if (parts[size][SORT] <= TOGETHER) {
                factBits |= 1 << size;
            } else {
                lastStage++;
            }
            size++;
        }

        void ask(int sort, int first, int second, int unit) {
            asked[SORT] = sort;
            asked[FIRST] = first;
            asked[SECOND] = second;
            asked[UNIT] = unit;
            asked[ASKED_STAGE] = sort == ASKS_HAD ? 0 : lastStage;
            told = true;
        }

        int size() {
            return size;
        }

        int facts() {
            return factBits;
        }

        int stages() {
            return told ? lastStage + 1 : 0;
        }

        boolean has(int i) {
            return i >= 0 && i < size && size <= MOST_SENTENCES;
        }

        int part(int i, int what) {
            return has(i) && what >= 0 && what < PARTS ? parts[i][what] : NONE;
        }

        int asked(int what) {
            return told && what >= 0 && what < ASKED_PARTS ? asked[what] : NONE;
        }

        boolean allows(int i, int number) {
            if (part(i, SORT) == TIMES) {
                return number >= LEAST_TIMES && number <= MOST_TIMES;
            }
            return has(i) && number >= 0 && number <= MOST_NUMBER;
        }

        void setNumber(int i, int number) {
            if (has(i)) {
                parts[i][NUMBER] = number;
            }
        }

        /** By how much an AMOUNT of a STAGE is above the same one at STAGE 0. */
        long gain(int name, int unit, int stage) {
            long gain = 0;
            for (int i = 0; i < size && i < MOST_SENTENCES; i++) {
                int[] sentence = parts[i];
                if (sentence[UNIT] == unit && sentence[STAGE] < stage) {
                    gain += gainBy(sentence, name);
                }
            }
            return gain;
        }

        private static int gainBy(int[] sentence, int name) {
            int number = sentence[NUMBER];
            boolean isFirst = sentence[FIRST] == name;
            switch (sentence[SORT]) {
                case GIVES:
                    if (isFirst) {
                        return -number;
                    }
                    return sentence[SECOND] == name ? number : 0;
                case BUYS:
                    return isFirst ? number : 0;
                case EATS:
                    return isFirst ? -number : 0;
                default:
                    return 0;
            }
        }
    }

    /** The NUMBERS as they were ahead of the latest put() calls. */
    private static final class Changes {
        private final int[] sentences = new int[MOST_CHANGES];
        private final int[] numbers = new int[MOST_CHANGES];
        private int size = 0;

        void clear() {
            size = 0;
        }

        int size() {
            return size;
        }

        void keep(int sentence, int number) {
            if (size >= MOST_CHANGES) {
                dropFirst();
            }
            sentences[size] = sentence;
            numbers[size] = number;
            size++;
        }

        private void dropFirst() {
            for (int i = 1; i < MOST_CHANGES; i++) {
                sentences[i - 1] = sentences[i];
                numbers[i - 1] = numbers[i];
            }
            size = MOST_CHANGES - 1;
        }

        void dropLast() {
            if (size > 0) {
                size--;
            }
        }

        int lastSentence() {
            return size > 0 ? sentences[size - 1] : NONE;
        }

        int lastNumber() {
            return size > 0 ? numbers[size - 1] : 0;
        }
    }

    /**
     * Laws about the eight AMOUNTS of one UNIT at STAGE 0, solved as far as they go: a row that leads
     * in a NAME's column is the only one with that column. Rows are whole numbers without a common
     * divisor: each is then at most a determinant of the laws, and its products stay within a long.
     */
    private static final class Laws {
        private final long[][] rows = new long[NAMES][COLUMNS];
        private final boolean[] leads = new boolean[NAMES];

        void clear() {
            for (int name = 0; name < NAMES; name++) {
                leads[name] = false;
            }
        }

        /** The law, which is changed, comes to the others. False: it quarrels with them. */
        boolean add(long[] law) {
            reduce(law);
            int lead = firstName(law);
            if (lead == NONE) {
                return law[MADE] == 0;
            }
            if (law[lead] < 0) {
                negate(law);
            }
            for (int name = 0; name < NAMES; name++) {
                if (leads[name]) {
                    eliminate(rows[name], law, lead);
                }
            }
            System.arraycopy(law, 0, rows[lead], 0, COLUMNS);
            leads[lead] = true;
            return true;
        }

        /** Takes from a law what the others settle of it. */
        void reduce(long[] law) {
            for (int name = 0; name < NAMES; name++) {
                if (leads[name]) {
                    eliminate(law, rows[name], name);
                }
            }
        }

        static int firstName(long[] law) {
            for (int name = 0; name < NAMES; name++) {
                if (law[name] != 0) {
                    return name;
                }
            }
            return NONE;
        }

        private static void negate(long[] law) {
            for (int k = 0; k < COLUMNS; k++) {
                law[k] = -law[k];
            }
        }

        /** The law's column goes by means of a row whose own number there is above 0. */
        private static void eliminate(long[] law, long[] row, int column) {
            if (law[column] == 0) {
                return;
            }
            long shared = gcd(row[column], law[column]);
            if (shared <= 0) {
                return;
            }
            long up = row[column] / shared;
            long less = law[column] / shared;
            long common = 0;
            for (int k = 0; k < COLUMNS; k++) {
                law[k] = law[k] * up - row[k] * less;
                common = gcd(common, law[k]);
            }
            if (common > 1) {
                for (int k = 0; k < COLUMNS; k++) {
                    law[k] = law[k] / common;
                }
            }
        }

        private static long gcd(long a, long b) {
            long larger = a < 0 ? -a : a;
            long rest = b < 0 ? -b : b;
            for (int i = 0; i < MOST_GCD_STEPS && rest != 0; i++) {
                long next = larger % rest;
                larger = rest;
                rest = next;
            }
            return larger;
        }
    }

    /** What the FACTS of a story settle. */
    private static final class Sums {
        private final Laws[] lawsOf = new Laws[UNITS];
        private final Laws someLaws = new Laws();
        private final long[][] factLaws = new long[MOST_SENTENCES][COLUMNS];
        private final long[] questionLaw = new long[COLUMNS];
        private final long[] law = new long[COLUMNS];
        private final long[] otherLaw = new long[COLUMNS];
        private final long[] tops = new long[UNITS * NAMES];
        private final long[] bottoms = new long[UNITS * NAMES];
        private Story story;
        private int quarrel = NONE;
        private long answerTop = 0;
        private long answerBottom = 0;
        private int idle = NONE;
        private int fewest = NONE;

        Sums(Story first) {
            for (int unit = 0; unit < UNITS; unit++) {
                lawsOf[unit] = new Laws();
            }
            story = first;
        }

        void begin(Story next) {
            story = next;
            solve();
        }

        /** Works all out anew, but for what is dear and seldom asked: that is sought when it is asked. */
        void solve() {
            quarrel = NONE;
            answerTop = 0;
            answerBottom = 0;
            idle = NONE;
            fewest = NONE;
            Arrays.fill(bottoms, 0L);
            makeLaws();
            addFacts();
            if (quarrel == NONE) {
                settleAmounts();
                settleAnswer();
            }
        }

        /** A FACT: the first AMOUNT and so many times the second one make so much. */
        private void makeLaws() {
            for (int i = 0; i < story.size() && i < MOST_SENTENCES; i++) {
                int sort = story.part(i, SORT);
                int unit = story.part(i, UNIT);
                int number = story.part(i, NUMBER);
                int stage = story.part(i, STAGE);
                long[] fact = factLaws[i];
                Arrays.fill(fact, 0L);
                fact[MADE] = madeBy(sort, number);
                weigh(fact, 1, story.part(i, FIRST), unit, stage);
                weigh(fact, secondWeight(sort, number), story.part(i, SECOND), unit, stage);
            }
            int unit = story.asked(UNIT);
            int stage = story.asked(ASKED_STAGE);
            startSought(questionLaw);
            weigh(questionLaw, -1, story.asked(FIRST), unit, stage);
            weigh(questionLaw, -1, story.asked(SECOND), unit, stage);
        }

        private static int madeBy(int sort, int number) {
            if (sort == TIMES) {
                return 0;
            }
            return sort == FEWER ? -number : number;
        }

        private static int secondWeight(int sort, int number) {
            if (sort == TIMES) {
                return -number;
            }
            return sort == TOGETHER ? 1 : -1;
        }

        /** What is sought, less the AMOUNTS that will be weighed by -1, makes 0. */
        private static void startSought(long[] sought) {
            Arrays.fill(sought, 0L);
            sought[SOUGHT] = 1;
        }

        /** An AMOUNT of any STAGE is the one of STAGE 0 and its gain, which goes to the other side. */
        private void weigh(long[] row, int weight, int name, int unit, int stage) {
            if (name >= 0 && name < NAMES) {
                row[name] += weight;
                row[MADE] -= weight * story.gain(name, unit, stage);
            }
        }

        private void addFacts() {
            for (int unit = 0; unit < UNITS; unit++) {
                lawsOf[unit].clear();
            }
            for (int i = 0; i < story.size() && i < MOST_SENTENCES && quarrel == NONE; i++) {
                int unit = story.part(i, UNIT);
                if (isFact(i) && unit >= 0 && unit < UNITS) {
                    System.arraycopy(factLaws[i], 0, law, 0, COLUMNS);
                    if (!lawsOf[unit].add(law)) {
                        quarrel = i;
                    }
                }
            }
        }

        private boolean isFact(int i) {
            return (story.facts() & (1 << i)) != 0;
        }

        private void settleAmounts() {
            for (int unit = 0; unit < UNITS; unit++) {
                for (int name = 0; name < NAMES; name++) {
                    startSought(law);
                    law[name] = -1;
                    lawsOf[unit].reduce(law);
                    if (Laws.firstName(law) == NONE) {
                        tops[unit * NAMES + name] = law[MADE];
                        bottoms[unit * NAMES + name] = law[SOUGHT];
                    }
                }
            }
        }

        private void settleAnswer() {
            int unit = story.asked(UNIT);
            if (unit < 0 || unit >= UNITS) {
                return;
            }
            System.arraycopy(questionLaw, 0, law, 0, COLUMNS);
            lawsOf[unit].reduce(law);
            if (Laws.firstName(law) == NONE) {
                answerTop = law[MADE];
                answerBottom = law[SOUGHT];
            }
        }

        int quarrelAt() {
            return quarrel;
        }

        private boolean hasAnswer() {
            return answerBottom != 0;
        }

        long answerPart(int what) {
            if (!hasAnswer()) {
                return UNTOLD;
            }
            if (what == 0) {
                return answerTop;
            }
            return what == 1 ? answerBottom : UNTOLD;
        }

        long amountPart(int name, int unit, int stage, int what) {
            if (name < 0 || name >= NAMES || unit < 0 || unit >= UNITS
                    || stage < 0 || stage >= story.stages()) {
                return UNTOLD;
            }
            long bottom = bottoms[unit * NAMES + name];
            if (bottom == 0) {
                return UNTOLD;
            }
            if (what == 0) {
                return topAt(name, unit, stage);
            }
            return what == 1 ? bottom : UNTOLD;
        }

        /** A whole number more leaves a fraction in lowest terms. */
        private long topAt(int name, int unit, int stage) {
            int place = unit * NAMES + name;
            return tops[place] + bottoms[place] * story.gain(name, unit, stage);
        }

        int settledAtFirst() {
            int settled = 0;
            for (int place = 0; place < UNITS * NAMES; place++) {
                if (bottoms[place] != 0) {
                    settled++;
                }
            }
            return settled;
        }

        int strangePart(int what) {
            for (int stage = 0; stage < story.stages(); stage++) {
                for (int unit = 0; unit < UNITS; unit++) {
                    for (int name = 0; name < NAMES; name++) {
                        if (isStrange(name, unit, stage)) {
                            return choose(what, name, unit, stage);
                        }
                    }
                }
            }
            return NONE;
        }

        private boolean isStrange(int name, int unit, int stage) {
            long bottom = bottoms[unit * NAMES + name];
            return bottom != 0 && (bottom != 1 || topAt(name, unit, stage) < 0);
        }

        private static int choose(int what, int name, int unit, int stage) {
            switch (what) {
                case 0:
                    return name;
                case 1:
                    return unit;
                case 2:
                    return stage;
                default:
                    return NONE;
            }
        }

        /** A NAME settles the question if what is left open of both is the same but for a factor. */
        int lackingName() {
            int unit = story.asked(UNIT);
            if (hasAnswer() || quarrel != NONE || unit < 0 || unit >= UNITS) {
                return NONE;
            }
            System.arraycopy(questionLaw, 0, law, 0, COLUMNS);
            lawsOf[unit].reduce(law);
            for (int name = 0; name < NAMES; name++) {
                Arrays.fill(otherLaw, 0L);
                otherLaw[name] = 1;
                lawsOf[unit].reduce(otherLaw);
                if (areAlongside(law, otherLaw)) {
                    return name;
                }
            }
            return NONE;
        }

        private static boolean areAlongside(long[] one, long[] other) {
            int lead = Laws.firstName(one);
            if (lead == NONE || other[lead] == 0) {
                return false;
            }
            for (int name = 0; name < NAMES; name++) {
                if (one[name] * other[lead] != other[name] * one[lead]) {
                    return false;
                }
            }
            return true;
        }

        int idleFacts() {
            if (!hasAnswer()) {
                return 0;
            }
            if (idle == NONE) {
                idle = 0;
                for (int i = 0; i < story.size(); i++) {
                    if (isFact(i) && isSettledBy(story.facts() & ~(1 << i))) {
                        idle |= 1 << i;
                    }
                }
            }
            return idle;
        }

        int fewestFacts() {
            if (hasAnswer() && fewest == NONE) {
                fewest = seekFewest(story.facts() & ~idleFacts(), factsOf(story.asked(UNIT)));
            }
            return fewest;
        }

        /** FACTS that are not idle are in every set that settles, those of another UNIT in none of the fewest. */
        private int seekFewest(int needed, int useful) {
            for (int members = 1; members <= story.size(); members++) {
                for (int set = 1; set <= useful; set++) {
                    if (Integer.bitCount(set) == members && (set & needed) == needed
                            && (set & ~useful) == 0 && isSettledBy(set)) {
                        return set;
                    }
                }
            }
            return NONE;
        }

        private int factsOf(int unit) {
            int found = 0;
            for (int i = 0; i < story.size(); i++) {
                if (isFact(i) && story.part(i, UNIT) == unit) {
                    found |= 1 << i;
                }
            }
            return found;
        }

        private boolean isSettledBy(int set) {
            int chosen = set & factsOf(story.asked(UNIT));
            someLaws.clear();
            for (int i = 0; i < MOST_SENTENCES; i++) {
                if ((chosen & (1 << i)) != 0) {
                    System.arraycopy(factLaws[i], 0, law, 0, COLUMNS);
                    someLaws.add(law);
                }
            }
            System.arraycopy(questionLaw, 0, law, 0, COLUMNS);
            someLaws.reduce(law);
            return Laws.firstName(law) == NONE;
        }
    }
}
