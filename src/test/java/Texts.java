import java.util.ArrayList;
import java.util.List;
import java.util.Random;

/** Makes texts of statutes: good ones, and good ones that something was done to. */
final class Texts {
    private static final String[] STRAY = {
        "body", "carry", "and", "or", "of", ";", ":", "*", "(", ")", "[", "]", "0", "1", "2", "00", "012",
        "999", "1000", "a", "b", "c", "l", "m", "z", "aa", "bb", "cc", "toolongs", "toolongst", "a1", "1a",
        "A", "#", "\t", "\u00e9", "0*a", "0 of [a]", "2 of [a b]", "(", "["
    };

    private final Random random;
    private final int members;
    private int names;
    private int ones;

    Texts(Random random, int members) {
        this.random = random;
        this.members = members;
    }

    String next() {
        List<String> tokens = new ArrayList<>();
        names = 0;
        ones = 0;
        int bodies = random.nextInt(4);
        for (int i = 0; i < bodies; i++) {
            tokens.add("body");
            tokens.add(name(i));
            tokens.add(":");
            rule(tokens, 0);
            tokens.add(";");
            names++;
        }
        tokens.add("carry");
        rule(tokens, 0);
        tokens.add(";");
        if (random.nextInt(3) == 0) {
            spoil(tokens);
        }
        String text = join(tokens);
        if (random.nextInt(12) == 0) {
            text = text.substring(0, random.nextInt(text.length() + 1));
        }
        return pad(text);
    }

    /** A text of one body of weights: LINED, mostly with many strengths. */
    String weighted() {
        StringBuilder text = new StringBuilder("carry ");
        int sum = 0;
        StringBuilder items = new StringBuilder();
        for (int m = 0; m < members; m++) {
            int weight = random.nextInt(random.nextInt(4) == 0 ? 30 : 9);
            sum += weight;
            items.append(weight).append('*').append((char) ('a' + m)).append(' ');
        }
        int quota = Math.max(1, Math.min(999, random.nextBoolean() ? sum / 2 + 1 : 1 + random.nextInt(sum + 2)));
        return text.append(quota).append(" of [").append(items).append("];").toString();
    }

    /** A text near one of the limits: of ONES, of what is open at once, or of NAMES; often spoilt there. */
    String crowded() {
        List<String> tokens = new ArrayList<>();
        int limit = random.nextInt(3);
        for (int i = limit == 2 ? 14 + random.nextInt(4) : 0; i > 0; i--) {
            tokens.addAll(List.of("body", "n" + (char) ('a' + i), ":", "a", ";"));
        }
        tokens.add("carry");
        List<String> closing = new ArrayList<>();
        for (int i = limit == 1 ? 10 + random.nextInt(4) : 0; i > 0; i--) {
            boolean round = random.nextBoolean();
            tokens.addAll(round ? List.of("(") : List.of("1", "of", "["));
            closing.add(0, round ? ")" : "]");
        }
        tokens.addAll(List.of("1", "of", "["));
        for (int i = limit == 0 ? 117 + random.nextInt(5) : 1; i > 0; i--) {
            tokens.add("a");
        }
        if (random.nextBoolean()) {
            tokens.add(STRAY[random.nextInt(STRAY.length)]);
            tokens.add(STRAY[random.nextInt(STRAY.length)]);
        }
        tokens.add("]");
        tokens.addAll(closing);
        tokens.add(";");
        if (random.nextInt(3) == 0) {
            spoil(tokens);
        }
        return String.join(" ", tokens);
    }

    private static String name(int i) {
        return new String[] {"aa", "house", "upper", "aaaaaaaa"}[i % 4];
    }

    private void rule(List<String> tokens, int depth) {
        int parts = 1 + (random.nextInt(3) == 0 ? 1 + random.nextInt(2) : 0);
        for (int i = 0; i < parts; i++) {
            if (i > 0) {
                tokens.add("or");
            }
            int all = 1 + (random.nextInt(3) == 0 ? 1 + random.nextInt(2) : 0);
            for (int k = 0; k < all; k++) {
                if (k > 0) {
                    tokens.add("and");
                }
                one(tokens, depth);
            }
        }
    }

    private void one(List<String> tokens, int depth) {
        ones++;
        int kind = random.nextInt(10);
        if (depth > 3 || ones > 40 || kind < 4) {
            tokens.add(String.valueOf((char) ('a' + random.nextInt(members))));
        } else if (kind < 5 && names > 0) {
            tokens.add(name(random.nextInt(names)));
        } else if (kind < 6) {
            tokens.add("(");
            rule(tokens, depth + 1);
            tokens.add(")");
        } else {
            int items = 1 + random.nextInt(members + 2);
            tokens.add(String.valueOf(1 + random.nextInt(items * 2)));
            tokens.add("of");
            tokens.add("[");
            for (int i = 0; i < items; i++) {
                if (random.nextInt(3) == 0) {
                    tokens.add(String.valueOf(random.nextInt(6)));
                    tokens.add("*");
                }
                one(tokens, depth + 1);
            }
            tokens.add("]");
        }
    }

    private void spoil(List<String> tokens) {
        int at = random.nextInt(tokens.size());
        switch (random.nextInt(4)) {
            case 0 -> tokens.remove(at);
            case 1 -> tokens.add(at, STRAY[random.nextInt(STRAY.length)]);
            case 2 -> tokens.set(at, STRAY[random.nextInt(STRAY.length)]);
            default -> tokens.add(at, tokens.get(random.nextInt(tokens.size())));
        }
    }

    private String join(List<String> tokens) {
        StringBuilder text = new StringBuilder();
        for (String token : tokens) {
            char last = text.length() == 0 ? ' ' : text.charAt(text.length() - 1);
            boolean apart = Character.isLetterOrDigit(last) && Character.isLetterOrDigit(token.charAt(0));
            if (apart ? random.nextInt(60) > 0 : random.nextInt(3) == 0) {
                text.append(random.nextInt(8) == 0 ? '\n' : ' ');
            }
            text.append(token);
        }
        return text.toString();
    }

    /** Sometimes blanks ahead of, within or behind the text bring it near, or past, 600 bytes. */
    private String pad(String text) {
        if (random.nextInt(8) > 0) {
            return text;
        }
        int target = 595 + random.nextInt(46);
        int blanks = Math.max(0, target - text.length());
        int at = random.nextInt(text.length() + 1);
        return text.substring(0, at) + " ".repeat(blanks) + text.substring(at);
    }
}
