import java.util.ArrayList;
import java.util.List;
import java.util.Random;

/** Texts of tales made by chance: most keep together, some are broken at one place. */
final class MadeTales {
    private static final String[] ODD_WORDS = {"ann", "bob", "has", "have", "and", "nuts", "figs", ".", "?", "5", "1000",
        "12", "1", "times", "as", "many", "than", "to", "how", "had", "more", "fewer", "5a", "zed", "!", "A", "\t", ""};

    private final Random random;
    private int names;
    private int units;

    MadeTales(Random random) {
        this.random = random;
    }

    String broken(String text) {
        List<String> words = new ArrayList<>(List.of(text.split("(?<=[ .?\\n])|(?=[.?])")));
        int at = random.nextInt(words.size());
        switch (random.nextInt(5)) {
            case 0: words.remove(at); break;
            case 1: words.add(at, ODD_WORDS[random.nextInt(ODD_WORDS.length)]); break;
            case 2: words.set(at, ODD_WORDS[random.nextInt(ODD_WORDS.length)] + " "); break;
            case 3: return text.substring(0, random.nextInt(text.length() + 1));
            default:
                int place = random.nextInt(text.length());
                return text.substring(0, place) + (char) (1 + random.nextInt(255)) + text.substring(place + 1);
        }
        return String.join("", words);
    }

    String tale() {
        names = 1 + random.nextInt(8);
        names = names == 1 ? 2 : names;
        units = random.nextInt(3) == 0 ? 1 + random.nextInt(4) : 1;
        String text;
        do {
            StringBuilder made = new StringBuilder();
            int many = random.nextInt(4) == 0 ? 10 : random.nextInt(11);
            int mood = random.nextInt(4);
            int[] hidden = new int[32];
            for (int k = 0; k < 32; k++) {
                hidden[k] = random.nextInt(mood == 0 ? 999 : 12);
            }
            for (int i = 0; i < many; i++) {
                made.append(mood == 3 ? wildSentence() : trueSentence(hidden)).append(blank(true));
            }
            text = made + question();
        } while (text.length() > 400);
        return text;
    }

    private String blank(boolean mayLack) {
        int sort = random.nextInt(8);
        return sort == 0 ? "\n" : sort == 1 ? "  " : sort < 5 && mayLack ? "" : " ";
    }

    private String name(int i) {
        return SlowTale.NAMES.get(i);
    }

    private int other(int first) {
        return (first + 1 + random.nextInt(names - 1)) % names;
    }

    private String unit(int i) {
        return SlowTale.UNITS.get(i);
    }

    private String question() {
        int a = random.nextInt(names);
        String unit = unit(random.nextInt(units));
        String tail = random.nextInt(4) == 0 ? " ?" : "?";
        switch (random.nextInt(3)) {
            case 0: return "how many " + unit + blank(false) + "has " + name(a) + tail;
            case 1: return "how many " + unit + " have " + name(a) + " and " + name(other(a)) + tail;
            default: return "how many " + unit + " had " + name(a) + tail;
        }
    }

    private String wildSentence() {
        int number = random.nextBoolean() ? random.nextInt(1000) : 999;
        int a = random.nextInt(names);
        int sort = random.nextInt(3) == 0 ? random.nextInt(8) : 3;
        number = sort == 3 ? 2 + random.nextInt(8) : number;
        return sentence(sort, a, other(a), random.nextInt(units), number);
    }

    /** A sentence that is true of the hidden amounts, if there is one of a chosen sort. */
    private String trueSentence(int[] hidden) {
        for (int tries = 0; tries < 30; tries++) {
            int sort = random.nextInt(random.nextInt(3) == 0 ? 8 : 5);
            int a = random.nextInt(names);
            int b = other(a);
            int unit = random.nextInt(units);
            int had = hidden[unit * 8 + a];
            int its = hidden[unit * 8 + b];
            int number = random.nextInt(9);
            switch (sort) {
                case 0: number = had; break;
                case 1: number = had - its; break;
                case 2: number = its - had; break;
                case 3: number = its != 0 && had % its == 0 ? had / its : had == 0 && its == 0 ? 5 : -1; break;
                case 4: number = had + its; break;
                case 5: hidden[unit * 8 + b] += number; hidden[unit * 8 + a] -= number; break;
                case 6: hidden[unit * 8 + a] += number; break;
                default: hidden[unit * 8 + a] -= number; break;
            }
            if (number >= 0 && number <= 999 && (sort != 3 || number >= 2 && number <= 9)
                    && (sort != 0 || random.nextInt(3) == 0)) {
                return sentence(sort, a, b, unit, number);
            }
        }
        return sentence(6, 0, 1, 0, 0);
    }

    private String sentence(int sort, int a, int b, int unit, int number) {
        String n = name(a);
        String m = name(b);
        String u = unit(unit);
        String stop = random.nextInt(6) == 0 ? " ." : ".";
        switch (sort) {
            case 0: return n + " has" + blank(true) + number + " " + u + stop;
            case 1: return n + " has " + number + " more " + u + " than " + m + stop;
            case 2: return n + " has " + number + " fewer " + u + " than " + m + stop;
            case 3: return n + " has " + number + " times as many " + u + " as " + m + stop;
            case 4: return n + " and " + m + " have " + number + " " + u + stop;
            case 5: return n + " gives " + number + blank(false) + u + " to " + m + stop;
            case 6: return n + " buys " + number + " " + u + stop;
            default: return n + " eats " + number + " " + u + stop;
        }
    }
}
