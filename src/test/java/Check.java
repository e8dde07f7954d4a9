import java.util.NoSuchElementException;

/** What the tests share: feeding texts, and comparing answers. */
final class Check {
    static int wrong = 0;
    static int done = 0;

    private Check() { }

    static void due(String what, long got, long want) {
        done++;
        if (got != want) {
            wrong++;
            System.out.println(what + " answered " + got + ", due is " + want);
        }
    }

    static void due(String what, boolean got, boolean want) {
        due(what, got ? 1 : 0, want ? 1 : 0);
    }

    static void finish(String name) {
        System.out.println(name + ": " + done + " answers, " + wrong + " wrong");
        if (wrong != 0) {
            System.exit(1);
        }
    }

    /** The tape is then just this text's signs, each one byte. */
    static void tape(CarryHouse x, String text) {
        x.end(0);
        for (int i = 0; i < text.length(); i += 20) {
            int[] numbers = new int[5];
            for (int k = 0; k < 20; k++) {
                int sign = i + k < text.length() ? text.charAt(i + k) : 'x';
                numbers[k / 4] = numbers[k / 4] << 8 | sign;
            }
            x.feed(numbers[0], numbers[1], numbers[2], numbers[3], numbers[4]);
        }
        x.end(text.length());
    }

    static void options(CarryHouse x, int... options) {
        StringBuilder text = new StringBuilder();
        for (int option : options) {
            text.append((char) option);
        }
        tape(x, text.toString());
    }

    static int statute(CarryHouse x, String text, int from) {
        tape(x, text);
        return x.statute(from);
    }

    static boolean rank(CarryHouse x, int m, int... options) {
        options(x, options);
        return x.rank(m);
    }

    static int leads(CarryHouse x, boolean foreseen, int... options) {
        options(x, options);
        return x.leads(foreseen);
    }

    /** A house of n members with one statute from day 0 on. */
    static CarryHouse house(int n, String text) {
        CarryHouse x = new CarryHouse();
        due("members(" + n + ")", x.members(n), true);
        int names = statute(x, text, 0);
        due("statute '" + text + "' is good", names >= 0, true);
        return x;
    }

    static void share(CarryHouse x, int m, int way, long upper, long lower) {
        String call = "share(" + m + ", " + way + ", ";
        due(call + "0)", x.share(m, way, 0), upper);
        due(call + "1)", x.share(m, way, 1), lower);
    }

    static boolean shareThrows(CarryHouse x, int m, int way, int what) {
        try {
            x.share(m, way, what);
            return false;
        } catch (NoSuchElementException e) {
            return e.getClass() == NoSuchElementException.class;
        }
    }
}
