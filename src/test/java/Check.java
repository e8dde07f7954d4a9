import java.util.NoSuchElementException;

/** What the tests share: feeding texts, and comparing answers. */
final class Check {
    static int wrong = 0;
    static int done = 0;
    private static String sentence = "";

    private Check() { }

    static void due(String what, long got, long want) {
        done++;
        if (got != want) {
            wrong++;
            System.out.println(sentence + what + " answered " + got + ", due is " + want);
        }
    }

    /** The sentence of the document that the answers from here on are held against. */
    static void sentence(String told) {
        sentence = "'" + told + "': ";
    }

    static void due(String what, boolean got, boolean want) {
        due(what, got ? 1 : 0, want ? 1 : 0);
    }

    static void finish(String name) {
        System.out.println(name + ": " + done + " answers, " + wrong + " wrong");
        if (wrong != 0) {
            System.exit(1);
        }
    }

    /** The tape is then just this text's signs, each one byte. */
    static void tape(CarryHouse x, String text) {
        x.end(0);
        for (int i = 0; i < text.length(); i += 20) {
            int[] numbers = new int[5];
            for (int k = 0; k < 20; k++) {
                int sign = i + k < text.length() ? text.charAt(i + k) : 'x';
                numbers[k / 4] = numbers[k / 4] << 8 | sign;
            }
            x.feed(numbers[0], numbers[1], numbers[2], numbers[3], numbers[4]);
        }
        x.end(text.length());
    }

    static void options(CarryHouse x, int... options) {
        StringBuilder text = new StringBuilder();
        for (int option : options) {
            text.append((char) option);
        }
        tape(x, text.toString());
    }

    static int statute(CarryHouse x, String text, int from) {
        tape(x, text);
        return x.statute(from);
    }

    static boolean rank(CarryHouse x, int m, int... options) {
        options(x, options);
        return x.rank(m);
    }

    static int leads(CarryHouse x, boolean foreseen, int... options) {
        options(x, options);
        return x.leads(foreseen);
    }

    /** A text on a new house of n members: the fault's kind and place. */
    static void faulty(int n, String text, int kind, int place) {
        CarryHouse x = new CarryHouse();
        x.members(n);
        due("6: '" + text + "'", statute(x, text, 0), -1 - place);
        due("7: '" + text + "'", x.fault(), kind);
        due("6: '" + text + "' is not told", x.count(2), 0);
    }

    /** A text on a new house of n members, with so many names. */
    static void good(int n, String text, int names) {
        CarryHouse x = new CarryHouse();
        x.members(n);
        due("6: '" + text + "'", statute(x, text, 0), names);
        due("7: '" + text + "'", x.fault(), 0);
        due("6: '" + text + "' is told", x.count(2), 1);
    }

    /** Which sets carry, as a row of 0 and 1 from the empty set on. */
    static void means(int n, String text, String row) {
        CarryHouse x = house(n, text);
        StringBuilder got = new StringBuilder();
        for (int set = 0; set < 1 << n; set++) {
            got.append(x.carries(set, 0));
        }
        due("8: '" + text + "' is " + row + ", not " + got, got.toString().equals(row), true);
    }

    /** A house of n members with one statute from day 0 on. */
    static CarryHouse house(int n, String text) {
        CarryHouse x = new CarryHouse();
        due("members(" + n + ")", x.members(n), true);
        int names = statute(x, text, 0);
        due("statute '" + text + "' is good", names >= 0, true);
        return x;
    }

    static void share(CarryHouse x, int m, int way, long upper, long lower) {
        String call = "share(" + m + ", " + way + ", ";
        due(call + "0)", x.share(m, way, 0), upper);
        due(call + "1)", x.share(m, way, 1), lower);
    }

    static boolean shareThrows(CarryHouse x, int m, int way, int what) {
        try {
            x.share(m, way, what);
            return false;
        } catch (NoSuchElementException e) {
            return e.getClass() == NoSuchElementException.class;
        }
    }
}
