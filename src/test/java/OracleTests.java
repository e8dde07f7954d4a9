import java.lang.reflect.InvocationTargetException;
import java.lang.reflect.Method;
import java.util.ArrayList;
import java.util.Arrays;
import java.util.List;
import java.util.Random;

/** Runs of calls, the same ones each time, on the class and on the oracle: they must answer alike. */
public final class OracleTests {
    private static final String[] CALLS = {
        "feed", "end", "next", "members", "statute", "fault", "carries", "many", "setAt", "stronger", "turns",
        "share", "chance", "ally", "weigh", "weight", "rank", "beats", "free", "top", "leads", "rows", "rowAt",
        "vote", "unfit", "sure", "open", "count"
    };
    private static int wrong = 0;

    private final Random random;
    private final CarryHouse house = new CarryHouse();
    private final Oracle oracle = new Oracle();
    private final List<String> told = new ArrayList<>();
    private final int run;
    private int members = 3;
    private int calls = 0;
    private boolean good = true;

    private OracleTests(int run) {
        this.run = run;
        random = new Random(run * 7919L + 1);
    }

    public static void main(String[] args) {
        int runs = args.length > 0 ? Integer.parseInt(args[0]) : 1000;
        weighEdges();
        for (int run = 0; run < runs && wrong < 5; run++) {
            new OracleTests(run).go();
        }
        System.out.println(wrong == 0 ? runs + " runs are as the oracle's" : wrong + " runs are wrong");
        if (wrong != 0) {
            System.exit(1);
        }
    }

    /** Texts whose weights are found, or just not found, at the edges of the search. */
    private static void weighEdges() {
        String[] texts = {
            "carry 29 of [13*a 6*b 5*c 11*d 7*e 4*f 10*g];", "carry 30 of [13*a 7*b 10*c 2*d 9*e 6*f 11*g];",
            "carry 31 of [6*a 10*b 12*c 4*d 0*e 8*f 5*g 3*h 12*i];",
            "carry 34 of [10*a 11*b 9*c 9*d 3*e 4*f 7*g 3*h 11*i];",
            "carry 41 of [10*a 4*b 4*c 0*d 2*e 7*f 10*g 11*h 4*i 8*j];",
            "carry 41 of [10*a 7*b 4*c 0*d 4*e 11*f 8*g 10*h 4*i 2*j];",
            "carry 15 of [6*a 4*b 1*c 6*d 11*e 2*f 4*g 4*h];", "carry 1 of [a e g] and 3 of [a b c d e f g];",
            "carry 7 of [a c 4*d 2*f h] and 7 of [a b c 3*d e f g h];"
        };
        int[] members = {7, 7, 9, 9, 10, 10, 8, 7, 8};
        for (int i = 0; i < texts.length; i++) {
            weighOne(-1 - i, texts[i], members[i]);
            weighOne(-100 - i, texts[i], 12);
        }
    }

    private static void weighOne(int run, String text, int members) {
        OracleTests test = new OracleTests(run);
        test.call("members", members);
        test.feedBytes(text);
        test.call("statute", 0);
        test.call("weigh");
        for (int m = 0; m <= 12; m++) {
            test.call("weight", m);
        }
    }

    private static Object answer(Object on, String name, Object[] args) {
        for (Method method : on.getClass().getMethods()) {
            if (method.getName().equals(name) && method.getParameterCount() == args.length) {
                try {
                    return method.invoke(on, args);
                } catch (InvocationTargetException e) {
                    return "throws " + e.getCause().getClass().getSimpleName();
                } catch (IllegalAccessException e) {
                    throw new IllegalStateException(e);
                }
            }
        }
        throw new IllegalStateException(name);
    }

    private Object call(String name, Object... args) {
        Object due = answer(oracle, name, args);
        Object got = answer(house, name, args);
        calls++;
        told.add(name + Arrays.toString(args) + " = " + got);
        if (good && !due.equals(got)) {
            good = false;
            wrong++;
            System.out.println("run " + run + ": due is " + due + " in the last of");
            for (String row : told) {
                System.out.println("  " + row);
            }
        }
        return got;
    }

    private void feedBytes(String text) {
        call("end", 0);
        for (int i = 0; i < text.length(); i += 20) {
            int[] numbers = new int[5];
            for (int k = 0; k < 20; k++) {
                int sign = i + k < text.length() ? text.charAt(i + k) : random.nextInt(256);
                numbers[k / 4] = numbers[k / 4] << 8 | sign;
            }
            call("feed", numbers[0], numbers[1], numbers[2], numbers[3], numbers[4]);
        }
        call("end", text.length());
    }

    private String options(int length) {
        List<Integer> all = new ArrayList<>(List.of(0, 1, 2, 3, 4, 5, 6));
        StringBuilder text = new StringBuilder();
        for (int i = 0; i < length; i++) {
            text.append((char) (int) (all.isEmpty() ? 7 : all.remove(random.nextInt(all.size()))));
        }
        if (random.nextInt(12) == 0 && length > 0) {
            text.setCharAt(random.nextInt(length), (char) random.nextInt(9));
        }
        return text.toString();
    }

    private int near(int low, int high) {
        return random.nextInt(15) == 0 ? wild() : low - 1 + random.nextInt(high - low + 3);
    }

    private int wild() {
        int[] odd = {Integer.MIN_VALUE, -1000, -2, -1, 0, 1, 12, 13, 999, 1000, 4096, 65536, Integer.MAX_VALUE};
        return odd[random.nextInt(odd.length)];
    }

    private int anySet() {
        return random.nextInt(20) == 0 ? wild() : random.nextInt((1 << members) + 1);
    }

    private int day() {
        return (int) answer(oracle, "count", new Object[] {0});
    }

    private void go() {
        // the oracle is slow where there are many members: such runs are few and short
        boolean large = run % 50 == 49;
        members = large ? 8 + random.nextInt(5) : 1 + random.nextInt(run % 10 == 9 ? 7 : 5);
        // a step can be some 36 calls, and a run ends with its 512th
        int most = large ? 60 : run % 20 == 7 ? 512 - 36 : 200 + random.nextInt(150);
        if (members != 3 || random.nextBoolean()) {
            call("members", members);
        }
        while (good && calls < most) {
            step();
        }
    }

    private void step() {
        int pick = random.nextInt(100);
        if (pick < 8) {
            Texts texts = new Texts(random, members);
            int kind = random.nextInt(8);
            feedBytes(kind < 2 ? texts.weighted() : kind < 3 ? texts.crowded() : texts.next());
            call("statute", random.nextInt(12) == 0 ? wild() : day() + random.nextInt(4) - (random.nextInt(9) == 0 ? 1 : 0));
            call("fault");
        } else if (pick < 14) {
            feedBytes(options(random.nextInt(15) == 0 ? random.nextInt(10) : 7));
            call("rank", near(0, members - 1));
        } else if (pick < 18) {
            feedBytes(options(random.nextInt(9)));
            call("leads", random.nextBoolean());
        } else if (pick < 20) {
            int n = random.nextInt(14);
            if ((boolean) call("members", n)) {
                members = n;
            }
            if (members > 8 && run % 50 != 49) {
                call("members", 4);
                members = (int) call("count", 1);
            }
        } else {
            ask(CALLS[random.nextInt(CALLS.length)]);
        }
    }

    private void ask(String name) {
        switch (name) {
            case "feed" -> call(name, random.nextInt(), random.nextInt(), random.nextInt(), random.nextInt(), random.nextInt());
            case "end" -> call(name, near(0, 641));
            case "next" -> call(name, random.nextInt(9) == 0 ? near(0, 999) : random.nextInt(3));
            case "carries" -> call(name, anySet(), random.nextInt(3) == 0 ? near(0, 999) : day() + random.nextInt(5) - 2);
            case "many" -> call(name, near(0, 7));
            case "setAt" -> call(name, near(1, 4), near(0, 5));
            case "stronger" -> call(name, near(0, members - 1), near(0, members - 1));
            case "turns", "ally" -> call(name, near(0, members - 1));
            case "weight" -> call(name, near(0, 12));
            case "share" -> call(name, near(0, members - 1), near(0, 2), near(0, 1));
            case "chance" -> call(name, near(0, 10));
            case "beats" -> call(name, near(0, 6), near(0, 6));
            case "rows", "rowAt" -> call(name, near(0, 6));
            case "vote" -> call(name, anySet(), random.nextBoolean());
            case "unfit", "open" -> call(name, random.nextInt(4) == 0 ? wild() : day() - random.nextInt(4));
            case "sure" -> call(name, anySet(), random.nextInt(4) == 0 ? wild() : day() - random.nextInt(4));
            case "count" -> call(name, near(0, 4));
            case "fault", "weigh", "free", "top" -> call(name);
            default -> call("count", 4);
        }
    }
}
