import java.math.BigInteger;
import java.util.ArrayList;
import java.util.List;

/**
 * The document's words followed slowly and otherwise than in the class: faults by all forms of a
 * SENTENCE at once, SETTLED by ranks, values by one solution in big numbers, sets by trying all.
 */
final class SlowTale {
    static final List<String> NAMES = List.of("ann", "bob", "cat", "dan", "eve", "fay", "gus", "hal");
    static final List<String> UNITS = List.of("nuts", "figs", "pies", "eggs");
    private static final String[] FORMS = {
        "N has # U .", "N has # more U than M .", "N has # fewer U than M .", "N has # times as many U as M .",
        "N and M have # U .", "N gives # U to M .", "N buys # U .", "N eats # U .",
        "how many U has N ?", "how many U have N and M ?", "how many U had N ?"};
    private static final int QUESTIONS = 8;

    private final String text;
    private final List<String> words = new ArrayList<>();
    private final List<Integer> starts = new ArrayList<>();
    final int fault;
    /** Of each SENTENCE: sort, names, unit, number, stage, start. */
    final List<int[]> sentences = new ArrayList<>();
    final int[] question = new int[5];
    int stages = 0;

    SlowTale(String text) {
        this.text = text;
        split();
        fault = readAll();
        if (fault == -1) {
            int stage = 0;
            for (int[] s : sentences) {
                s[5] = stage;
                stage += s[0] >= 5 ? 1 : 0;
            }
            stages = stage + 1;
            question[4] = question[0] == 2 ? 0 : stage;
        }
    }

    private void split() {
        int at = 0;
        while (at < text.length()) {
            String rest = text.substring(at);
            java.util.regex.Matcher m = java.util.regex.Pattern
                    .compile("^(?:[ \\n]+|[a-z]+|[0-9][0-9a-z]*|[\\x00-\\xff])", java.util.regex.Pattern.DOTALL)
                    .matcher(rest);
            if (!m.find()) {
                throw new IllegalStateException(text);
            }
            if (rest.charAt(0) != ' ' && rest.charAt(0) != '\n') {
                words.add(m.group());
                starts.add(at);
            }
            at += m.end();
        }
    }

    private int startOf(int word) {
        return word < words.size() ? starts.get(word) : text.length();
    }

    private int readAll() {
        int at = 0;
        while (true) {
            int low = sentences.size() == 10 ? QUESTIONS : 0;
            int best = 0;
            int whole = -1;
            for (int form = low; form < FORMS.length; form++) {
                int fits = fits(form, at);
                best = Math.max(best, fits);
                whole = fits == FORMS[form].split(" ").length ? form : whole;
            }
            if (whole == -1) {
                return startOf(at + best);
            }
            keep(whole, at);
            at += FORMS[whole].split(" ").length;
            if (whole >= QUESTIONS) {
                return at == words.size() ? -1 : startOf(at);
            }
        }
    }

    /** How many words of a form the words from a place on fit. */
    private int fits(int form, int at) {
        String[] due = FORMS[form].split(" ");
        String first = "";
        int number = -1;
        for (int k = 0; k < due.length; k++) {
            String word = at + k < words.size() ? words.get(at + k) : "";
            boolean fit;
            switch (due[k]) {
                case "N": fit = NAMES.contains(word); first = word; break;
                case "M": fit = NAMES.contains(word) && !word.equals(first); break;
                case "U": fit = UNITS.contains(word); break;
                case "#": fit = word.matches("[0-9]{1,3}"); number = fit ? Integer.parseInt(word) : -1; break;
                case "times": fit = word.equals("times") && number >= 2 && number <= 9; break;
                default: fit = word.equals(due[k]); break;
            }
            if (!fit) {
                return k;
            }
        }
        return due.length;
    }

    private void keep(int form, int at) {
        int[] s = {form, -1, -1, -1, -1, 0, starts.get(at)};
        String[] due = FORMS[form].split(" ");
        for (int k = 0; k < due.length; k++) {
            String word = words.get(at + k);
            switch (due[k]) {
                case "N": s[1] = NAMES.indexOf(word); break;
                case "M": s[2] = NAMES.indexOf(word); break;
                case "U": s[3] = UNITS.indexOf(word); break;
                case "#": s[4] = Integer.parseInt(word); break;
                default: break;
            }
        }
        if (form < QUESTIONS) {
            sentences.add(s);
        } else {
            System.arraycopy(s, 1, question, 1, 3);
            question[0] = form - QUESTIONS;
        }
    }

    /** What each AMOUNT has gained at a STAGE, by going through the tale. */
    private long[] gains(int stage) {
        long[] gains = new long[32];
        int now = 0;
        for (int[] s : sentences) {
            if (s[0] < 5 || now == stage) {
                continue;
            }
            now++;
            int place = s[3] * 8;
            if (s[0] == 6) {
                gains[place + s[1]] += s[4];
            } else {
                gains[place + s[1]] -= s[4];
            }
            if (s[0] == 5) {
                gains[place + s[2]] += s[4];
            }
        }
        return gains;
    }

    /** Weights of the 32 AMOUNTS at STAGE 0, and what they make. */
    private long[] law(int i) {
        int[] s = sentences.get(i);
        long[] gains = gains(s[5]);
        long[] law = new long[33];
        int a = s[3] * 8 + s[1];
        int b = s[3] * 8 + s[2];
        law[a] = 1;
        switch (s[0]) {
            case 0: law[32] = s[4] - gains[a]; break;
            case 1: law[b] = -1; law[32] = s[4] - gains[a] + gains[b]; break;
            case 2: law[b] = -1; law[32] = -s[4] - gains[a] + gains[b]; break;
            case 3: law[b] = -s[4]; law[32] = s[4] * gains[b] - gains[a]; break;
            default: law[b] = 1; law[32] = s[4] - gains[a] - gains[b]; break;
        }
        return law;
    }

    int facts() {
        int bits = 0;
        for (int i = 0; i < sentences.size(); i++) {
            bits |= sentences.get(i)[0] < 5 ? 1 << i : 0;
        }
        return bits;
    }

    private List<long[]> laws(int set) {
        List<long[]> laws = new ArrayList<>();
        for (int i = 0; i < sentences.size(); i++) {
            if ((set >> i & 1) != 0) {
                laws.add(law(i));
            }
        }
        return laws;
    }

    private long[] asked() {
        long[] row = new long[33];
        row[question[3] * 8 + question[1]] = 1;
        if (question[2] != -1) {
            row[question[3] * 8 + question[2]] = 1;
        }
        return row;
    }

    private static int rank(List<long[]> laws, int columns) {
        BigInteger[][] m = new BigInteger[laws.size()][columns];
        for (int i = 0; i < m.length; i++) {
            for (int k = 0; k < columns; k++) {
                m[i][k] = BigInteger.valueOf(laws.get(i)[k]);
            }
        }
        int rank = 0;
        for (int k = 0; k < columns && rank < m.length; k++) {
            int lead = rank;
            while (lead < m.length && m[lead][k].signum() == 0) {
                lead++;
            }
            if (lead == m.length) {
                continue;
            }
            BigInteger[] swap = m[lead];
            m[lead] = m[rank];
            m[rank] = swap;
            for (int i = rank + 1; i < m.length; i++) {
                BigInteger by = m[i][k];
                if (by.signum() != 0) {
                    for (int j = k; j < columns; j++) {
                        m[i][j] = m[i][j].multiply(m[rank][k]).subtract(m[rank][j].multiply(by));
                    }
                }
            }
            rank++;
        }
        return rank;
    }

    private static boolean settles(List<long[]> laws, long[] row) {
        List<long[]> more = new ArrayList<>(laws);
        more.add(row);
        return rank(laws, 32) == rank(more, 32);
    }

    int quarrel() {
        for (int i = 0; i < sentences.size(); i++) {
            List<long[]> laws = laws(facts() & ((2 << i) - 1));
            if (rank(laws, 32) != rank(laws, 33)) {
                return i;
            }
        }
        return -1;
    }

    /** One solution of the laws, the AMOUNTS that stay free being told; values as pairs of numbers. */
    private static BigInteger[][] solution(List<long[]> laws, long free) {
        List<BigInteger[]> rows = new ArrayList<>();
        List<Integer> leads = new ArrayList<>();
        for (long[] law : laws) {
            BigInteger[] row = new BigInteger[33];
            for (int k = 0; k < 33; k++) {
                row[k] = BigInteger.valueOf(law[k]);
            }
            for (int i = 0; i < rows.size(); i++) {
                row = without(row, rows.get(i), leads.get(i));
            }
            int lead = 0;
            while (lead < 32 && row[lead].signum() == 0) {
                lead++;
            }
            if (lead < 32) {
                rows.add(row);
                leads.add(lead);
            }
        }
        BigInteger[][] found = new BigInteger[32][];
        for (int k = 0; k < 32; k++) {
            if (!leads.contains(k)) {
                found[k] = new BigInteger[] {BigInteger.valueOf(free + 7 * k), BigInteger.ONE};
            }
        }
        for (int i = rows.size() - 1; i >= 0; i--) {
            BigInteger[] rest = {rows.get(i)[32], BigInteger.ONE};
            for (int k = 0; k < 32; k++) {
                if (k != leads.get(i) && rows.get(i)[k].signum() != 0) {
                    rest = plus(rest, times(found[k], rows.get(i)[k].negate()));
                }
            }
            BigInteger lead = rows.get(i)[leads.get(i)];
            found[leads.get(i)] = lowest(rest[0], rest[1].multiply(lead));
        }
        return found;
    }

    private static BigInteger[] without(BigInteger[] row, BigInteger[] other, int lead) {
        BigInteger[] next = new BigInteger[33];
        for (int k = 0; k < 33; k++) {
            next[k] = row[k].multiply(other[lead]).subtract(other[k].multiply(row[lead]));
        }
        return next;
    }

    private static BigInteger[] times(BigInteger[] a, BigInteger by) {
        return lowest(a[0].multiply(by), a[1]);
    }

    private static BigInteger[] plus(BigInteger[] a, BigInteger[] b) {
        return lowest(a[0].multiply(b[1]).add(b[0].multiply(a[1])), a[1].multiply(b[1]));
    }

    private static BigInteger[] lowest(BigInteger top, BigInteger bottom) {
        BigInteger by = top.gcd(bottom);
        by = bottom.signum() < 0 ? by.negate() : by;
        return new BigInteger[] {top.divide(by), bottom.divide(by)};
    }

    private BigInteger[] valueOf(long[] row, long gain) {
        BigInteger[] once = {BigInteger.valueOf(gain), BigInteger.ONE};
        BigInteger[][] found = solution(laws(facts()), 1);
        for (int k = 0; k < 32; k++) {
            once = plus(once, times(found[k], BigInteger.valueOf(row[k])));
        }
        return once;
    }

    boolean hasAnswer() {
        return quarrel() == -1 && settles(laws(facts()), asked());
    }

    BigInteger[] answer() {
        if (!hasAnswer()) {
            return null;
        }
        long[] gains = gains(question[4]);
        long gain = 0;
        for (int k = 0; k < 32; k++) {
            gain += asked()[k] * gains[k];
        }
        return valueOf(asked(), gain);
    }

    /** All AMOUNTS of a STAGE by units and names; null if not settled. */
    BigInteger[][] amounts(int stage) {
        BigInteger[][] told = new BigInteger[32][];
        if (quarrel() != -1) {
            return told;
        }
        List<long[]> laws = laws(facts());
        BigInteger[][] found = solution(laws, 3);
        for (int k = 0; k < 32; k++) {
            long[] row = new long[33];
            row[k] = 1;
            if (settles(laws, row)) {
                told[k] = plus(found[k], new BigInteger[] {BigInteger.valueOf(gains(stage)[k]), BigInteger.ONE});
            }
        }
        return told;
    }

    int idle() {
        int bits = 0;
        for (int i = 0; i < sentences.size() && hasAnswer(); i++) {
            if ((facts() >> i & 1) != 0 && settles(laws(facts() & ~(1 << i)), asked())) {
                bits |= 1 << i;
            }
        }
        return bits;
    }

    int enough() {
        int best = -1;
        for (int set = 0; set <= facts() && hasAnswer(); set++) {
            if ((set & ~facts()) == 0 && (best == -1 || Integer.bitCount(set) < Integer.bitCount(best))
                    && settles(laws(set), asked())) {
                best = set;
            }
        }
        return best;
    }

    int lacking() {
        if (quarrel() != -1 || hasAnswer()) {
            return -1;
        }
        for (int name = 0; name < 8; name++) {
            List<long[]> laws = laws(facts());
            long[] row = new long[33];
            row[question[3] * 8 + name] = 1;
            laws.add(row);
            if (settles(laws, asked())) {
                return name;
            }
        }
        return -1;
    }

    int[] strange() {
        for (int stage = 0; stage < stages; stage++) {
            BigInteger[][] told = amounts(stage);
            for (int k = 0; k < 32; k++) {
                if (told[k] != null && (told[k][0].signum() < 0 || !told[k][1].equals(BigInteger.ONE))) {
                    return new int[] {k % 8, k / 8, stage};
                }
            }
        }
        return new int[] {-1, -1, -1};
    }
}
