import java.math.BigInteger;
import java.util.ArrayList;
import java.util.Arrays;
import java.util.Comparator;
import java.util.HashMap;
import java.util.List;
import java.util.Map;
import java.util.NoSuchElementException;
import java.util.TreeMap;

/**
 * The document's words done over as slowly and literally as can be, with the whole Java library,
 * to hold the class against. It shares no code with the class.
 */
public final class Oracle {
    static final int NONE = -1;

    /** What a set carries. */
    interface Rule {
        boolean carriedBy(int set);
    }

    /** A statute with the day it was told and the day it is in force from. */
    record Law(int told, int from, Rule rule) { }

    record Ballot(int day, int set, boolean passed) { }

    private int n = 3;
    private int today = 0;
    private final List<Integer> tape = new ArrayList<>();
    private final List<Law> laws = new ArrayList<>();
    private final List<Ballot> votes = new ArrayList<>();
    private final Map<Integer, List<Integer>> orders = new HashMap<>();
    private int fault = 0;
    private int[] weights = null;
    private int number = NONE;
    private List<Integer> firstRow = null;
    private boolean pending = false;

    // ---- the tape, days and members

    public int feed(int a, int b, int c, int d, int e) {
        if (tape.size() > 620) {
            return NONE;
        }
        for (int x : new int[] {a, b, c, d, e}) {
            tape.add(x >>> 24);
            tape.add(x >>> 16 & 0xFF);
            tape.add(x >>> 8 & 0xFF);
            tape.add(x & 0xFF);
        }
        return tape.size();
    }

    public boolean end(int k) {
        if (k < 0 || k > tape.size()) {
            return false;
        }
        tape.subList(k, tape.size()).clear();
        return true;
    }

    public int next(int k) {
        if (k < 0 || k > 999 || today + k > 999) {
            return NONE;
        }
        return today += k;
    }

    public boolean members(int k) {
        if (k < 1 || k > 12 || !laws.isEmpty() || !votes.isEmpty() || !orders.isEmpty()) {
            return false;
        }
        n = k;
        return true;
    }

    // ---- statutes

    record Token(char kind, String text, int at) { }

    static final class Fault extends RuntimeException {
        final int kind;
        final int at;

        Fault(int kind, int at) {
            this.kind = kind;
            this.at = at;
        }
    }

    /** Kinds: w word, n number, $ the end, ? no token, or the sign itself. */
    private static List<Token> tokens(String text) {
        int limit = Math.min(600, text.length());
        List<Token> found = new ArrayList<>();
        int i = 0;
        while (i < limit) {
            char c = text.charAt(i);
            if (c == ' ' || c == '\n') {
                i++;
                continue;
            }
            int j = i;
            while (j < text.length() && String.valueOf(text.charAt(j)).matches("[a-z0-9]")) {
                j++;
            }
            if (j == i) {
                found.add(new Token(";:*()[]".indexOf(c) >= 0 ? c : '?', String.valueOf(c), i));
                i++;
            } else {
                String run = text.substring(i, j);
                char kind = run.matches("[a-z]{1,8}") ? 'w' : run.matches("[0-9]{1,3}") ? 'n' : '?';
                found.add(new Token(kind, run, i));
                i = j;
            }
        }
        found.add(new Token('$', "", limit));
        found.add(new Token('$', "", limit));
        return found;
    }

    private final class Parser {
        private final List<Token> tokens;
        private final Map<String, Rule> names = new TreeMap<>();
        private int at = 0;
        private int ones = 0;
        private int open = 0;

        Parser(String text) {
            tokens = tokens(text);
        }

        private Token now() {
            return tokens.get(Math.min(at, tokens.size() - 1));
        }

        private boolean sees(String word) {
            return now().text().equals(word);
        }

        private void take(String text) {
            if (!sees(text)) {
                throw new Fault(1, now().at());
            }
            at++;
        }

        private boolean seesName() {
            return now().kind() == 'w' && now().text().length() > 1
                && !List.of("body", "carry", "and", "or", "of").contains(now().text());
        }

        Rule text(boolean cut) {
            while (sees("body")) {
                at++;
                Token name = now();
                if (!seesName()) {
                    throw new Fault(1, name.at());
                }
                if (names.containsKey(name.text())) {
                    throw new Fault(3, name.at());
                }
                if (names.size() == 16) {
                    throw new Fault(4, name.at());
                }
                at++;
                take(":");
                Rule rule = rule();
                take(";");
                names.put(name.text(), rule);
            }
            take("carry");
            Rule last = rule();
            take(";");
            if (now().kind() != '$' || cut) {
                throw new Fault(1, now().at());
            }
            return last;
        }

        private Rule rule() {
            List<Rule> parts = new ArrayList<>(List.of(all()));
            while (sees("or")) {
                at++;
                parts.add(all());
            }
            return set -> parts.stream().anyMatch(p -> p.carriedBy(set));
        }

        private Rule all() {
            List<Rule> parts = new ArrayList<>(List.of(one()));
            while (sees("and")) {
                at++;
                parts.add(one());
            }
            return set -> parts.stream().allMatch(p -> p.carriedBy(set));
        }

        private void opening(String sign) {
            if (sees(sign) && open == 12) {
                throw new Fault(4, now().at());
            }
            take(sign);
            open++;
        }

        private Rule one() {
            Token first = now();
            boolean letter = first.kind() == 'w' && first.text().length() == 1;
            if (first.kind() != '(' && first.kind() != 'n' && !letter && !seesName()) {
                throw new Fault(1, first.at());
            }
            if (first.kind() == 'n' && Integer.parseInt(first.text()) == 0) {
                throw new Fault(2, first.at());
            }
            if (letter && first.text().charAt(0) - 'a' >= n) {
                throw new Fault(2, first.at());
            }
            if (seesName() && !names.containsKey(first.text())) {
                throw new Fault(3, first.at());
            }
            if (++ones > 120) {
                throw new Fault(4, first.at());
            }
            if (first.kind() == '(') {
                opening("(");
                Rule inside = rule();
                take(")");
                open--;
                return inside;
            }
            at++;
            if (first.kind() == 'n') {
                return quota(Integer.parseInt(first.text()));
            }
            if (letter) {
                int m = first.text().charAt(0) - 'a';
                return set -> (set & 1 << m) != 0;
            }
            return names.get(first.text());
        }

        private Rule quota(int least) {
            take("of");
            opening("[");
            List<Integer> parts = new ArrayList<>();
            List<Rule> items = new ArrayList<>();
            do {
                int weight = 1;
                if (now().kind() == 'n' && tokens.get(at + 1).kind() == '*') {
                    weight = Integer.parseInt(now().text());
                    at += 2;
                } else if (now().kind() == 'n' && !tokens.get(at + 1).text().equals("of")) {
                    throw new Fault(1, tokens.get(at + 1).at());
                }
                parts.add(weight);
                items.add(one());
            } while (!sees("]"));
            at++;
            open--;
            return set -> {
                int sum = 0;
                for (int i = 0; i < items.size(); i++) {
                    sum += items.get(i).carriedBy(set) ? parts.get(i) : 0;
                }
                return sum >= least;
            };
        }
    }

    private String tapeText() {
        StringBuilder text = new StringBuilder();
        for (int b : tape) {
            text.append((char) b);
        }
        return text.toString();
    }

    public int statute(int from) {
        String text = tapeText();
        tape.clear();
        if (laws.size() == 8 || from < today || from > 999) {
            return -1000;
        }
        try {
            Parser parser = new Parser(text);
            Rule rule = parser.text(text.length() > 600);
            boolean[] table = new boolean[1 << n];
            for (int set = 0; set < table.length; set++) {
                table[set] = rule.carriedBy(set);
            }
            laws.add(new Law(today, from, set -> table[set]));
            fault = 0;
            return parser.names.size();
        } catch (Fault f) {
            fault = f.kind;
            return -1 - f.at;
        }
    }

    public int fault() {
        return fault;
    }

    private Rule inForce(int day, int asOf) {
        Law best = null;
        for (Law law : laws) {
            if (law.from() <= day && law.told() <= asOf && (best == null || law.from() >= best.from())) {
                best = law;
            }
        }
        int full = (1 << n) - 1;
        return best == null ? set -> set == full : best.rule();
    }

    private boolean now(int set) {
        return inForce(today, 999).carriedBy(set);
    }

    private boolean isSet(int set) {
        return set >= 0 && set < 1 << n;
    }

    public int carries(int set, int day) {
        if (!isSet(set) || day < 0 || day > 999) {
            return NONE;
        }
        return inForce(day, 999).carriedBy(set) ? 1 : 0;
    }

    // ---- least, hinder and what follows

    private List<Integer> minimal(java.util.function.IntPredicate does) {
        List<Integer> found = new ArrayList<>();
        for (int set = 0; set < 1 << n; set++) {
            boolean good = does.test(set);
            for (int m = 0; m < n; m++) {
                good &= (set & 1 << m) == 0 || !does.test(set ^ 1 << m);
            }
            if (good) {
                found.add(set);
            }
        }
        found.sort(Comparator.<Integer>comparingInt(Integer::bitCount).thenComparing(x -> x));
        return found;
    }

    private boolean hinders(int set) {
        for (int other = 0; other < 1 << n; other++) {
            if ((other & set) == 0 && now(other)) {
                return false;
            }
        }
        return true;
    }

    private List<Integer> least() {
        return minimal(this::now);
    }

    private List<Integer> hinder() {
        boolean[] table = new boolean[1 << n];
        for (int set = 0; set < table.length; set++) {
            table[set] = hinders(set);
        }
        return minimal(set -> table[set]);
    }

    private int needed() {
        int found = 0;
        List<Integer> least = least();
        for (int m = 0; m < n; m++) {
            int bit = 1 << m;
            found |= !least.isEmpty() && least.stream().allMatch(s -> (s & bit) != 0) ? bit : 0;
        }
        return found;
    }

    private int idle() {
        int found = 0;
        List<Integer> least = least();
        for (int m = 0; m < n; m++) {
            int bit = 1 << m;
            found |= least.stream().noneMatch(s -> (s & bit) != 0) ? bit : 0;
        }
        return found;
    }

    private boolean proper() {
        for (int a = 0; a < 1 << n; a++) {
            for (int b = 0; now(a) && b < 1 << n; b++) {
                if ((a & b) == 0 && now(b)) {
                    return false;
                }
            }
        }
        return true;
    }

    private boolean strong() {
        for (int a = 0; a < 1 << n; a++) {
            if (!now(a) && !now((1 << n) - 1 - a)) {
                return false;
            }
        }
        return true;
    }

    private boolean lined() {
        for (int a = 0; a < n; a++) {
            for (int b = 0; b < n; b++) {
                if (stronger(a, b) == 2) {
                    return false;
                }
            }
        }
        return true;
    }

    public int many(int kind) {
        return switch (kind) {
            case 0 -> (int) java.util.stream.IntStream.range(0, 1 << n).filter(this::now).count();
            case 1 -> least().size();
            case 2 -> hinder().size();
            case 3 -> Integer.bitCount(needed());
            case 4 -> Integer.bitCount(idle());
            case 5 -> proper() ? 1 : 0;
            case 6 -> strong() ? 1 : 0;
            case 7 -> lined() ? 1 : 0;
            default -> NONE;
        };
    }

    public int setAt(int kind, int k) {
        if (kind == 1 || kind == 2) {
            List<Integer> sets = kind == 1 ? least() : hinder();
            return k >= 0 && k < sets.size() ? sets.get(k) : NONE;
        }
        if ((kind == 3 || kind == 4) && k == 0) {
            return kind == 3 ? needed() : idle();
        }
        return NONE;
    }

    private boolean isMember(int m) {
        return m >= 0 && m < n;
    }

    public int stronger(int a, int b) {
        if (!isMember(a) || !isMember(b)) {
            return -2;
        }
        boolean aLess = false;
        boolean bLess = false;
        for (int set = 0; set < 1 << n; set++) {
            if ((set & (1 << a)) == 0 && (set & (1 << b)) == 0) {
                boolean withA = now(set + (1 << a));
                boolean withB = now(set + (1 << b));
                aLess |= withB && !withA;
                bLess |= withA && !withB;
            }
        }
        return aLess ? (bLess ? 2 : -1) : (bLess ? 1 : 0);
    }

    // ---- turns, shares, chance, allies

    public int turns(int m) {
        if (!isMember(m)) {
            return NONE;
        }
        int found = 0;
        for (int set = 0; set < 1 << n; set++) {
            if ((set & 1 << m) != 0 && now(set) && !now(set ^ 1 << m)) {
                found++;
            }
        }
        return found;
    }

    /** How many orders of all members first carry with m, counted member by member. */
    private long ordersWith(int m) {
        long[] ordersOf = new long[1 << n];
        ordersOf[0] = 1;
        long found = 0;
        long[] rest = new long[n + 1];
        rest[0] = 1;
        for (int i = 1; i <= n; i++) {
            rest[i] = rest[i - 1] * i;
        }
        for (int set = 0; set < 1 << n; set++) {
            for (int next = 0; next < n && !now(set); next++) {
                int then = set | 1 << next;
                if (then == set) {
                    continue;
                }
                ordersOf[then] += ordersOf[set];
                if (next == m && now(then)) {
                    found += ordersOf[set] * rest[n - Integer.bitCount(then)];
                }
            }
        }
        return found;
    }

    public long share(int m, int way, int what) throws NoSuchElementException {
        if (!isMember(m) || way < 0 || way > 2 || what < 0 || what > 1) {
            throw new NoSuchElementException();
        }
        BigInteger upper = BigInteger.ZERO;
        BigInteger lower = BigInteger.ONE;
        if (way == 0) {
            long all = 0;
            for (int k = 0; k < n; k++) {
                all += turns(k);
            }
            upper = BigInteger.valueOf(turns(m));
            lower = BigInteger.valueOf(all);
        } else if (way == 1) {
            upper = BigInteger.valueOf(ordersWith(m));
            for (int k = 1; k <= n; k++) {
                lower = lower.multiply(BigInteger.valueOf(k));
            }
        } else {
            List<Integer> least = least();
            for (int set : least) {
                if ((set & 1 << m) != 0) {
                    BigInteger part = BigInteger.valueOf((long) Integer.bitCount(set) * least.size());
                    upper = upper.multiply(part).add(lower);
                    lower = lower.multiply(part);
                    BigInteger common = upper.gcd(lower);
                    upper = upper.divide(common);
                    lower = lower.divide(common);
                }
            }
        }
        if (upper.signum() == 0) {
            return what;
        }
        BigInteger common = upper.gcd(lower);
        return (what == 0 ? upper : lower).divide(common).longValueExact();
    }

    public long chance(int p) {
        if (p < 0 || p > 10) {
            return NONE;
        }
        long sum = 0;
        for (int set = 0; set < 1 << n; set++) {
            long product = now(set) ? 1 : 0;
            for (int m = 0; m < n; m++) {
                product *= (set & 1 << m) != 0 ? p : 10 - p;
            }
            sum += product;
        }
        return sum;
    }

    public int ally(int m) {
        if (!isMember(m) || n == 1) {
            return NONE;
        }
        int best = NONE;
        int most = NONE;
        for (int other = n - 1; other >= 0; other--) {
            int found = 0;
            for (int set = 0; set < 1 << n && other != m; set++) {
                boolean both = (set & 1 << m) != 0 && (set & 1 << other) != 0;
                if (both && now(set) && !now(set ^ 1 << m) && !now(set ^ 1 << other)) {
                    found++;
                }
            }
            if (other != m && found >= most) {
                most = found;
                best = other;
            }
        }
        return best;
    }

    // ---- weights

    /** All rows of weights that sum to s and keep to the strengths, told by members. */
    private List<int[]> weightRows(List<List<Integer>> classes, int s) {
        List<int[]> rows = new ArrayList<>();
        collect(classes, 0, -1, s, new int[n], rows);
        rows.sort((x, y) -> Arrays.compare(y, x));
        return rows;
    }

    /** Classes come weakest first. */
    private void collect(List<List<Integer>> classes, int c, int above, int left, int[] row, List<int[]> rows) {
        if (c == classes.size()) {
            if (left == 0) {
                rows.add(row.clone());
            }
            return;
        }
        int members = 0;
        for (int k = c; k < classes.size(); k++) {
            members += classes.get(k).size();
        }
        for (int w = above + 1; w * members <= left; w++) {
            for (int m : classes.get(c)) {
                row[m] = w;
            }
            collect(classes, c + 1, w, left - w * classes.get(c).size(), row, rows);
        }
    }

    private List<List<Integer>> classes() {
        TreeMap<Integer, List<Integer>> byStrength = new TreeMap<>();
        for (int m = 0; m < n; m++) {
            int weaker = 0;
            for (int other = 0; other < n; other++) {
                weaker += stronger(m, other) == 1 ? 1 : 0;
            }
            byStrength.computeIfAbsent(weaker, k -> new ArrayList<>()).add(m);
        }
        return new ArrayList<>(byStrength.values());
    }

    private int numberFor(int[] row) {
        int lightest = Integer.MAX_VALUE;
        int heaviest = -1;
        for (int set = 0; set < 1 << n; set++) {
            int sum = 0;
            for (int m = 0; m < n; m++) {
                sum += (set & 1 << m) != 0 ? row[m] : 0;
            }
            if (now(set)) {
                lightest = Math.min(lightest, sum);
            } else {
                heaviest = Math.max(heaviest, sum);
            }
        }
        return heaviest < lightest ? lightest : NONE;
    }

    public int weigh() {
        if (!lined() || !now((1 << n) - 1) || now(0)) {
            return NONE;
        }
        List<List<Integer>> classes = classes();
        int tried = 0;
        for (int s = 0; s <= 60; s++) {
            for (int[] row : weightRows(classes, s)) {
                if (++tried > 5000) {
                    return -2;
                }
                int found = numberFor(row);
                if (found != NONE) {
                    weights = row;
                    number = found;
                    return s;
                }
            }
        }
        return NONE;
    }

    public int weight(int m) {
        if (m == 12) {
            return number;
        }
        return isMember(m) && weights != null && m < weights.length ? weights[m] : NONE;
    }

    // ---- options

    private List<Integer> orderOf(int m) {
        return orders.getOrDefault(m, List.of(0, 1, 2, 3, 4, 5, 6));
    }

    public boolean rank(int m) {
        List<Integer> order = new ArrayList<>(tape);
        tape.clear();
        if (!isMember(m) || order.size() != 7 || !order.containsAll(List.of(0, 1, 2, 3, 4, 5, 6))) {
            return false;
        }
        orders.put(m, order);
        return true;
    }

    private boolean defeats(int x, int y) {
        int who = 0;
        for (int m = 0; m < n; m++) {
            who |= orderOf(m).indexOf(x) < orderOf(m).indexOf(y) ? 1 << m : 0;
        }
        return now(who);
    }

    public int beats(int x, int y) {
        if (x < 0 || x > 6 || y < 0 || y > 6 || x == y) {
            return NONE;
        }
        return defeats(x, y) ? 1 : 0;
    }

    public int free() {
        int found = 0;
        for (int y = 0; y < 7; y++) {
            boolean good = true;
            for (int x = 0; x < 7; x++) {
                good &= x == y || !defeats(x, y);
            }
            found |= good ? 1 << y : 0;
        }
        return found;
    }

    private List<Integer> comesTo(int y) {
        List<Integer> found = new ArrayList<>();
        for (int round = 0; round < 8; round++) {
            for (int x = 0; x < 7; x++) {
                int to = x;
                boolean direct = x != y && defeats(x, y);
                if (!found.contains(x) && (direct || found.stream().anyMatch(z -> z != to && defeats(to, z)))) {
                    found.add(x);
                }
            }
        }
        return found;
    }

    public int top() {
        int found = 0;
        for (int x = 0; x < 7; x++) {
            int self = x;
            found |= comesTo(x).stream().allMatch(z -> comesTo(z).contains(self)) ? 1 << x : 0;
        }
        return found;
    }

    private int leadsTo(List<Integer> row) {
        int standing = row.get(0);
        for (int coming : row) {
            standing = coming != standing && defeats(coming, standing) ? coming : standing;
        }
        return standing;
    }

    private int foresee(int standing, List<Integer> coming) {
        if (coming.isEmpty()) {
            return standing;
        }
        List<Integer> later = coming.subList(1, coming.size());
        int with = foresee(coming.get(0), later);
        int without = foresee(standing, later);
        return with != without && defeats(with, without) ? with : without;
    }

    public int leads(boolean foreseen) {
        List<Integer> row = new ArrayList<>(tape);
        tape.clear();
        boolean good = !row.isEmpty() && row.stream().allMatch(x -> x < 7)
            && row.stream().distinct().count() == row.size();
        if (!good) {
            return NONE;
        }
        return foreseen ? foresee(row.get(0), row.subList(1, row.size())) : leadsTo(row);
    }

    private int rowsFrom(List<Integer> row, int x, boolean[][] over) {
        if (row.size() == 7) {
            int standing = row.get(0);
            for (int coming : row) {
                standing = over[coming][standing] ? coming : standing;
            }
            if (standing == x && pending) {
                firstRow = new ArrayList<>(row);
                pending = false;
            }
            return standing == x ? 1 : 0;
        }
        int found = 0;
        for (int next = 0; next < 7; next++) {
            if (!row.contains(next)) {
                row.add(next);
                found += rowsFrom(row, x, over);
                row.remove(row.size() - 1);
            }
        }
        return found;
    }

    public int rows(int x) {
        if (x < 0 || x > 6) {
            return NONE;
        }
        boolean[][] over = new boolean[7][7];
        for (int a = 0; a < 7; a++) {
            for (int b = 0; b < 7; b++) {
                over[a][b] = a != b && defeats(a, b);
            }
        }
        pending = true;
        return rowsFrom(new ArrayList<>(), x, over);
    }

    public int rowAt(int k) {
        return firstRow == null || k < 0 || k > 6 ? NONE : firstRow.get(k);
    }

    // ---- votes

    public int vote(int set, boolean passed) {
        if (!isSet(set) || votes.size() == 60) {
            return NONE;
        }
        votes.add(new Ballot(today, set, passed));
        return votes.size() - 1;
    }

    public int unfit(int t) {
        for (Ballot vote : votes) {
            if (vote.day() <= t && inForce(vote.day(), t).carriedBy(vote.set()) != vote.passed()) {
                return votes.indexOf(vote);
            }
        }
        return NONE;
    }

    public int sure(int set, int t) {
        if (!isSet(set)) {
            return NONE;
        }
        boolean sure = votes.stream().anyMatch(v -> v.day() <= t && v.passed() && (v.set() | set) == set);
        boolean cant = votes.stream().anyMatch(v -> v.day() <= t && !v.passed() && (v.set() & set) == set);
        return sure && cant ? 3 : sure ? 1 : cant ? 0 : 2;
    }

    public int open(int t) {
        int found = 0;
        for (int set = 0; set < 1 << n; set++) {
            found += sure(set, t) == 2 ? 1 : 0;
        }
        return found;
    }

    public int count(int what) {
        int[] counts = {today, n, laws.size(), votes.size(), tape.size()};
        return what < 0 || what > 4 ? NONE : counts[what];
    }
}
