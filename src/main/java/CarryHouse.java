import java.util.NoSuchElementException;

/**
 * A house whose members carry things in sets. The document (DOC.md) numbers what each method
 * promises; words of the comments mean what its 'Terms' say.
 */
public final class CarryHouse {
    public static final int NONE = -1;

    private static final int MOST_MEMBERS = 12;
    private static final int FIRST_MEMBERS = 3;
    private static final int LAST_DAY = 999;
    private static final int MOST_STATUTES = 8;
    private static final int REFUSED = -1000;
    private static final int NO_SUCH_PAIR = -2;

    private final Tape tape;
    private final Reader reader;
    private final Statute unanimous;
    private final Statute[] statutes;
    private final Powers powers;
    private final Scales scales;
    private final Ballot ballot;
    private final Chronicle chronicle;
    private int statuteCount;
    private int size;
    private int today;
    private int faultKind;

    public CarryHouse() {
        tape = new Tape();
        reader = new Reader(tape);
        unanimous = new Statute(NONE);
        statutes = new Statute[MOST_STATUTES];
        powers = new Powers(unanimous);
        scales = new Scales(powers);
        ballot = new Ballot();
        chronicle = new Chronicle();
        statuteCount = 0;
        today = 0;
        faultKind = 0;
        size = FIRST_MEMBERS;
        unanimous.needAll(FIRST_MEMBERS);
    }

    public int feed(int a, int b, int c, int d, int e) {
        if (!tape.hasRoom()) {
            return NONE;
        }
        tape.put(a);
        tape.put(b);
        tape.put(c);
        tape.put(d);
        tape.put(e);
        return tape.length;
    }

    public boolean end(int n) {
        if (n < 0 || n > tape.length) {
            return false;
        }
        tape.length = n;
        return true;
    }

    public int next(int n) {
        if (n < 0 || n > LAST_DAY || today + n > LAST_DAY) {
            return NONE;
        }
        today += n;
        return today;
    }

    public boolean members(int n) {
        boolean late = statuteCount > 0 || chronicle.length > 0 || ballot.ranked;
        if (late || n < 1 || n > MOST_MEMBERS) {
            return false;
        }
        size = n;
        unanimous.needAll(n);
        return true;
    }

    public int statute(int from) {
        if (statuteCount >= MOST_STATUTES || from < today || from > LAST_DAY) {
            tape.length = 0;
            return REFUSED;
        }
        reader.read(size);
        tape.length = 0;
        faultKind = reader.faultKind;
        if (faultKind != 0) {
            return -1 - reader.faultPlace;
        }
        Statute told = new Statute(from);
        reader.program.fill(told, size);
        statutes[statuteCount] = told;
        statuteCount++;
        return reader.nameCount;
    }

    public int fault() {
        return faultKind;
    }

    public int carries(int set, int day) {
        if (!isSet(set) || day < 0 || day > LAST_DAY) {
            return NONE;
        }
        return inForce(day).holds(set) ? 1 : 0;
    }

    public int many(int kind) {
        Powers now = powersToday();
        switch (kind) {
            case 0:
                return now.countCarrying();
            case 1:
                return now.leastCount;
            case 2:
                return now.hinderCount;
            case 3:
                return Integer.bitCount(now.needed);
            case 4:
                return Integer.bitCount(now.idle);
            case 5:
                return now.isProper() ? 1 : 0;
            case 6:
                return now.isStrong() ? 1 : 0;
            case 7:
                return now.isLined() ? 1 : 0;
            default:
                return NONE;
        }
    }

    public int setAt(int kind, int k) {
        Powers now = powersToday();
        switch (kind) {
            case 1:
                return k >= 0 && k < now.leastCount ? now.least[k] : NONE;
            case 2:
                return k >= 0 && k < now.hinderCount ? now.hinder[k] : NONE;
            case 3:
                return k == 0 ? now.needed : NONE;
            case 4:
                return k == 0 ? now.idle : NONE;
            default:
                return NONE;
        }
    }

    public int stronger(int a, int b) {
        if (!isMember(a) || !isMember(b)) {
            return NO_SUCH_PAIR;
        }
        return powersToday().compare(a, b);
    }

    public int turns(int m) {
        return isMember(m) ? powersToday().swings[m] : NONE;
    }

    public long share(int m, int way, int what) throws NoSuchElementException {
        if (!isMember(m) || way < 0 || way > 2 || what < 0 || what > 1) {
            throw new NoSuchElementException();
        }
        Powers now = powersToday();
        long upper = now.upperShare(m, way);
        long lower = now.lowerShare(way);
        long divisor = commonDivisor(upper, lower);
        if (upper == 0 || divisor <= 0) {
            return what == 0 ? 0 : 1;
        }
        return what == 0 ? upper / divisor : lower / divisor;
    }

    public long chance(int p) {
        return p < 0 || p > 10 ? NONE : powersToday().chanceOf(p);
    }

    public int ally(int m) {
        return isMember(m) ? powersToday().allyOf(m) : NONE;
    }

    public int weigh() {
        powersToday();
        return scales.look();
    }

    public int weight(int m) {
        if (m == MOST_MEMBERS) {
            return scales.toldNumber;
        }
        return isMember(m) ? scales.told[m] : NONE;
    }

    public boolean rank(int m) {
        boolean good = isMember(m) && tape.length == Ballot.OPTIONS && ballot.isRow(tape);
        if (good) {
            ballot.order(m, tape);
        }
        tape.length = 0;
        return good;
    }

    public int beats(int x, int y) {
        if (!Ballot.isOption(x) || !Ballot.isOption(y) || x == y) {
            return NONE;
        }
        return inForce(today).holds(ballot.whoPrefer(x, y, size)) ? 1 : 0;
    }

    public int free() {
        ballot.match(inForce(today), size);
        return ballot.unbeaten();
    }

    public int top() {
        ballot.match(inForce(today), size);
        return ballot.best();
    }

    public int leads(boolean foreseen) {
        int reached = NONE;
        if (ballot.isRow(tape)) {
            ballot.match(inForce(today), size);
            reached = foreseen ? ballot.foresee(tape) : ballot.follow(tape);
        }
        tape.length = 0;
        return reached;
    }

    public int rows(int x) {
        if (!Ballot.isOption(x)) {
            return NONE;
        }
        ballot.match(inForce(today), size);
        return ballot.countRows(x);
    }

    public int rowAt(int k) {
        return Ballot.isOption(k) ? ballot.firstRow[k] : NONE;
    }

    public int vote(int set, boolean passed) {
        return isSet(set) ? chronicle.add(set, passed, today) : NONE;
    }

    public int unfit(int t) {
        for (int i = 0; i < chronicle.length; i++) {
            int day = chronicle.days[i];
            // a statute in force on a vote's day was told on that day or ahead, so ahead of t too
            if (day <= t && inForce(day).holds(chronicle.sets[i]) != chronicle.passes[i]) {
                return i;
            }
        }
        return NONE;
    }

    public int sure(int set, int t) {
        return isSet(set) ? chronicle.judge(set, t) : NONE;
    }

    public int open(int t) {
        int found = 0;
        for (int set = 0; set < 1 << size; set++) {
            if (chronicle.judge(set, t) == Chronicle.OPEN) {
                found++;
            }
        }
        return found;
    }

    public int count(int what) {
        switch (what) {
            case 0:
                return today;
            case 1:
                return size;
            case 2:
                return statuteCount;
            case 3:
                return chronicle.length;
            case 4:
                return tape.length;
            default:
                return NONE;
        }
    }

    private boolean isMember(int m) {
        return m >= 0 && m < size;
    }

    private boolean isSet(int set) {
        return set >= 0 && set < 1 << size;
    }

    private Statute inForce(int day) {
        Statute found = unanimous;
        for (int i = 0; i < statuteCount; i++) {
            Statute other = statutes[i];
            if (other != null && other.from <= day && other.from >= found.from) {
                found = other;
            }
        }
        return found;
    }

    private Powers powersToday() {
        powers.study(inForce(today), size);
        return powers;
    }

    private static long commonDivisor(long a, long b) {
        long greater = a;
        long lesser = b;
        // Euclid's steps on numbers below 2 to the 63rd are fewer than 100
        for (int i = 0; i < 100 && lesser != 0; i++) {
            long rest = greater % lesser;
            greater = lesser;
            lesser = rest;
        }
        return greater;
    }

    /** The bytes that wait to be a statute, an order or a row. */
    private static final class Tape {
        static final int MOST = 640;
        static final int FED = 20;

        final byte[] bytes;
        int length;

        Tape() {
            bytes = new byte[MOST];
            length = 0;
        }

        boolean hasRoom() {
            return length + FED <= MOST;
        }

        void put(int number) {
            for (int shift = 24; shift >= 0 && length < MOST; shift -= 8) {
                bytes[length] = (byte) (number >> shift);
                length++;
            }
        }

        int at(int place) {
            return place >= 0 && place < length ? bytes[place] & 255 : NONE;
        }
    }

    /** Which sets carry from a day on, one bit for each set. */
    private static final class Statute {
        static final int WORDS = 64;

        final int from;
        final long[] bits;

        Statute(int from) {
            this.from = from;
            bits = new long[WORDS];
        }

        boolean holds(int set) {
            int word = set >> 6;
            return word >= 0 && word < WORDS && (bits[word] >>> (set & 63) & 1L) != 0;
        }

        void add(int set) {
            int word = set >> 6;
            if (word >= 0 && word < WORDS) {
                bits[word] |= 1L << (set & 63);
            }
        }

        void needAll(int members) {
            for (int i = 0; i < WORDS; i++) {
                bits[i] = 0;
            }
            add((1 << members) - 1);
        }
    }

    /** The tokens of a text, one at a time. */
    private static final class Scanner {
        static final int END = 0;
        static final int BAD = 1;
        static final int WORD = 2;
        static final int NUMBER = 3;
        static final int MOST_BYTES = 600;
        static final int MOST_LETTERS = 8;
        static final int MOST_DIGITS = 3;

        private final Tape text;
        private int limit;
        private int place;
        int kind;
        int start;
        int stop;
        int value;

        Scanner(Tape tape) {
            text = tape;
        }

        void begin() {
            limit = Math.min(text.length, MOST_BYTES);
            place = 0;
            advance();
        }

        boolean isCut() {
            return text.length > MOST_BYTES;
        }

        void advance() {
            while (place < limit && isBlank(text.at(place))) {
                place++;
            }
            start = Math.min(place, limit);
            if (place >= limit) {
                kind = END;
            } else if (isLetter(text.at(place)) || isDigit(text.at(place))) {
                takeRun();
            } else {
                kind = isSign(text.at(place)) ? text.at(place) : BAD;
                place++;
            }
            stop = place;
        }

        private void takeRun() {
            int letters = 0;
            int digits = 0;
            value = 0;
            // a run goes on past the limit: what begins ahead of it is read whole
            for (; place < text.length; place++) {
                int sign = text.at(place);
                if (isLetter(sign)) {
                    letters++;
                } else if (isDigit(sign)) {
                    digits++;
                    value = digits <= MOST_DIGITS ? value * 10 + sign - '0' : value;
                } else {
                    break;
                }
            }
            kind = BAD;
            if (digits == 0 && letters <= MOST_LETTERS) {
                kind = WORD;
            } else if (letters == 0 && digits <= MOST_DIGITS) {
                kind = NUMBER;
            }
        }

        boolean isWord(String word) {
            if (kind != WORD || stop - start != word.length()) {
                return false;
            }
            for (int i = 0; i < word.length(); i++) {
                if (text.at(start + i) != word.charAt(i)) {
                    return false;
                }
            }
            return true;
        }

        boolean isName() {
            boolean kept = isWord("body") || isWord("carry") || isWord("and") || isWord("or") || isWord("of");
            return kind == WORD && stop - start >= 2 && !kept;
        }

        boolean isLone() {
            return kind == WORD && stop - start == 1;
        }

        int letter() {
            return text.at(start) - 'a';
        }

        boolean isLike(int from, int to) {
            if (to - from != stop - start) {
                return false;
            }
            for (int i = 0; i < to - from; i++) {
                if (text.at(from + i) != text.at(start + i)) {
                    return false;
                }
            }
            return true;
        }

        private static boolean isBlank(int sign) {
            return sign == ' ' || sign == '\n';
        }

        private static boolean isLetter(int sign) {
            return sign >= 'a' && sign <= 'z';
        }

        private static boolean isDigit(int sign) {
            return sign >= '0' && sign <= '9';
        }

        private static boolean isSign(int sign) {
            return sign == ';' || sign == ':' || sign == '*' || sign == '(' || sign == ')' || sign == '[' || sign == ']';
        }
    }

    /** A statute as steps on a stack, to be run for each set. */
    private static final class Program {
        static final int MEMBER = 0;
        static final int NAME = 1;
        static final int AND = 2;
        static final int OR = 3;
        static final int BEGIN = 4;
        static final int ITEM = 5;
        static final int QUOTA = 6;
        static final int BODY = 7;
        // at most three steps for each of 120 ONES, and one for each of 16 bodies
        static final int MOST_STEPS = 400;
        // at most three values for each of twelve that are open, and for the rule itself
        static final int MOST_DEPTH = 64;

        private final int[] codes;
        private final int[] values;
        private final int[] stack;
        private int length;

        Program() {
            codes = new int[MOST_STEPS];
            values = new int[MOST_STEPS];
            stack = new int[MOST_DEPTH];
            length = 0;
        }

        void clear() {
            length = 0;
        }

        void add(int code, int value) {
            if (length < MOST_STEPS) {
                codes[length] = code;
                values[length] = value;
                length++;
            }
        }

        void fill(Statute statute, int members) {
            for (int set = 0; set < 1 << members; set++) {
                if (run(set)) {
                    statute.add(set);
                }
            }
        }

        private boolean run(int set) {
            int names = 0;
            int depth = 0;
            for (int i = 0; i < length; i++) {
                int code = codes[i];
                int value = values[i];
                if (code == MEMBER || code == NAME || code == BEGIN) {
                    int pushed = code == BEGIN ? 0 : (code == MEMBER ? set : names) >> value & 1;
                    depth = push(depth, pushed);
                } else if (code == QUOTA) {
                    replace(depth, peek(depth) >= value ? 1 : 0);
                } else {
                    int last = peek(depth);
                    depth--;
                    if (code == BODY) {
                        names |= last << value;
                    } else {
                        replace(depth, join(code, peek(depth), last, value));
                    }
                }
            }
            return peek(depth) != 0;
        }

        private static int join(int code, int below, int last, int value) {
            if (code == AND) {
                return below & last;
            }
            return code == OR ? below | last : below + last * value;
        }

        private int push(int depth, int pushed) {
            if (depth < 0 || depth >= MOST_DEPTH) {
                return depth;
            }
            stack[depth] = pushed;
            return depth + 1;
        }

        private int peek(int depth) {
            return depth > 0 && depth <= MOST_DEPTH ? stack[depth - 1] : 0;
        }

        private void replace(int depth, int value) {
            if (depth > 0 && depth <= MOST_DEPTH) {
                stack[depth - 1] = value;
            }
        }
    }

    /** Reads a text by its grammar: a program, or the first fault along it. */
    private static final class Reader {
        static final int CANT_COME = 1;
        static final int NOT_AS_TOLD = 2;
        static final int WRONG_NAME = 3;
        static final int TOO_MANY = 4;
        static final int MOST_ONES = 120;
        static final int MOST_OPEN = 12;
        static final int MOST_NAMES = 16;

        final Program program;
        private final Scanner scanner;
        private final int[] nameStarts;
        private final int[] nameStops;
        private int members;
        private int ones;
        private int opened;
        int nameCount;
        int faultKind;
        int faultPlace;

        Reader(Tape tape) {
            program = new Program();
            scanner = new Scanner(tape);
            nameStarts = new int[MOST_NAMES];
            nameStops = new int[MOST_NAMES];
        }

        void read(int memberCount) {
            program.clear();
            members = memberCount;
            ones = 0;
            opened = 0;
            nameCount = 0;
            faultKind = 0;
            faultPlace = 0;
            scanner.begin();
            boolean good = true;
            for (int i = 0; i <= MOST_NAMES && good && scanner.isWord("body"); i++) {
                good = readBody();
            }
            if (good && takeWord("carry") && readRule() && takeSign(';')) {
                takeEnd();
            }
        }

        private boolean fail(int kind, int place) {
            faultKind = kind;
            faultPlace = place;
            return false;
        }

        private boolean takeWord(String word) {
            if (!scanner.isWord(word)) {
                return fail(CANT_COME, scanner.start);
            }
            scanner.advance();
            return true;
        }

        private boolean takeSign(int sign) {
            if (scanner.kind != sign) {
                return fail(CANT_COME, scanner.start);
            }
            scanner.advance();
            return true;
        }

        private boolean takeEnd() {
            boolean good = scanner.kind == Scanner.END && !scanner.isCut();
            return good || fail(CANT_COME, scanner.start);
        }

        private boolean takeOpening(int sign) {
            if (scanner.kind != sign) {
                return fail(CANT_COME, scanner.start);
            }
            if (opened >= MOST_OPEN) {
                return fail(TOO_MANY, scanner.start);
            }
            opened++;
            scanner.advance();
            return true;
        }

        private boolean readBody() {
            scanner.advance();
            int start = scanner.start;
            int stop = scanner.stop;
            if (!takeNewName() || !takeSign(':') || !readRule() || !takeSign(';')) {
                return false;
            }
            program.add(Program.BODY, nameCount);
            if (nameCount < MOST_NAMES) {
                // only now: a body's own rule can't use its name
                nameStarts[nameCount] = start;
                nameStops[nameCount] = stop;
                nameCount++;
            }
            return true;
        }

        private boolean takeNewName() {
            if (!scanner.isName()) {
                return fail(CANT_COME, scanner.start);
            }
            if (toldName() != NONE) {
                return fail(WRONG_NAME, scanner.start);
            }
            if (nameCount >= MOST_NAMES) {
                return fail(TOO_MANY, scanner.start);
            }
            scanner.advance();
            return true;
        }

        private int toldName() {
            for (int i = 0; i < nameCount; i++) {
                if (scanner.isLike(nameStarts[i], nameStops[i])) {
                    return i;
                }
            }
            return NONE;
        }

        private boolean readRule() {
            boolean good = readAll();
            for (int i = 0; i <= MOST_ONES && good && scanner.isWord("or"); i++) {
                scanner.advance();
                good = readAll();
                program.add(Program.OR, 0);
            }
            return good;
        }

        private boolean readAll() {
            boolean good = readOne();
            for (int i = 0; i <= MOST_ONES && good && scanner.isWord("and"); i++) {
                scanner.advance();
                good = readOne();
                program.add(Program.AND, 0);
            }
            return good;
        }

        private boolean readOne() {
            int start = scanner.start;
            if (scanner.kind == Scanner.NUMBER) {
                int number = scanner.value;
                scanner.advance();
                return readQuota(start, number);
            }
            if (scanner.kind == '(') {
                boolean good = countOne(start) && takeOpening('(') && readRule() && takeSign(')');
                opened--;
                return good;
            }
            boolean good = (scanner.isLone() ? noteMember() : noteName()) && countOne(start);
            scanner.advance();
            return good;
        }

        private boolean noteMember() {
            int member = scanner.letter();
            if (member < 0 || member >= members) {
                return fail(NOT_AS_TOLD, scanner.start);
            }
            program.add(Program.MEMBER, member);
            return true;
        }

        private boolean noteName() {
            if (!scanner.isName()) {
                return fail(CANT_COME, scanner.start);
            }
            int name = toldName();
            if (name == NONE) {
                return fail(WRONG_NAME, scanner.start);
            }
            program.add(Program.NAME, name);
            return true;
        }

        private boolean countOne(int start) {
            ones++;
            return ones <= MOST_ONES || fail(TOO_MANY, start);
        }

        /** The number, which stands at start, has been taken already. */
        private boolean readQuota(int start, int number) {
            if (number < 1) {
                return fail(NOT_AS_TOLD, start);
            }
            if (!countOne(start) || !takeWord("of") || !takeOpening('[')) {
                return false;
            }
            program.add(Program.BEGIN, 0);
            boolean good = readItem();
            for (int i = 0; i <= MOST_ONES && good && scanner.kind != ']'; i++) {
                good = readItem();
            }
            program.add(Program.QUOTA, number);
            opened--;
            return good && takeSign(']');
        }

        private boolean readItem() {
            int weight = 1;
            boolean good;
            if (scanner.kind == Scanner.NUMBER) {
                int start = scanner.start;
                int number = scanner.value;
                scanner.advance();
                if (scanner.kind == '*') {
                    weight = number;
                    scanner.advance();
                    good = readOne();
                } else if (scanner.isWord("of")) {
                    good = readQuota(start, number);
                } else {
                    // the number itself could have been a weight: only what follows it is wrong
                    good = fail(CANT_COME, scanner.start);
                }
            } else {
                good = readOne();
            }
            program.add(Program.ITEM, weight);
            return good;
        }
    }

    /** What the statute in force makes of the members; kept until another one is in force. */
    private static final class Powers {
        // no more than these of the sets of twelve can stand with none inside another
        static final int MOST_SETS = 924;
        // what every number from 1 to 12 divides
        private static final long PARTS = 27720;
        private static final long[] FACTORIALS = {
            1, 1, 2, 6, 24, 120, 720, 5040, 40320, 362880, 3628800, 39916800, 479001600
        };

        final int[] least;
        final int[] hinder;
        final int[] swings;
        private final int[] starts;
        private final int[] atLeast;
        private final long[] bySize;
        Statute law;
        int members;
        private int full;
        int leastCount;
        int hinderCount;
        int needed;
        int idle;

        Powers(Statute first) {
            // with no members yet, so that the first study is of another house
            law = first;
            members = 0;
            least = new int[MOST_SETS];
            hinder = new int[MOST_SETS];
            swings = new int[MOST_MEMBERS];
            starts = new int[MOST_MEMBERS + 2];
            atLeast = new int[MOST_MEMBERS];
            bySize = new long[MOST_MEMBERS + 1];
        }

        boolean isOf(Statute statute, int memberCount) {
            return law == statute && members == memberCount;
        }

        void study(Statute statute, int memberCount) {
            if (isOf(statute, memberCount)) {
                return;
            }
            law = statute;
            members = memberCount;
            full = (1 << memberCount) - 1;
            leastCount = list(least, false);
            hinderCount = list(hinder, true);
            markNeeded();
            for (int m = 0; m < members; m++) {
                swings[m] = countSwings(m);
            }
            compareAll();
        }

        /** Sets go to their size's part of the row, each part by rising numbers. */
        private int list(int[] row, boolean hinders) {
            for (int i = 0; i < starts.length; i++) {
                starts[i] = 0;
            }
            for (int set = 0; set <= full; set++) {
                if (isMinimal(set, hinders)) {
                    starts[Integer.bitCount(set) + 1]++;
                }
            }
            for (int i = 1; i < starts.length; i++) {
                starts[i] += starts[i - 1];
            }
            int found = 0;
            for (int set = 0; set <= full; set++) {
                if (isMinimal(set, hinders)) {
                    int place = starts[Integer.bitCount(set)]++;
                    if (place < row.length) {
                        row[place] = set;
                    }
                    found++;
                }
            }
            return Math.min(found, row.length);
        }

        private boolean isMinimal(int set, boolean hinders) {
            if (!does(set, hinders)) {
                return false;
            }
            for (int m = 0; m < members; m++) {
                if ((set >> m & 1) != 0 && does(set & ~(1 << m), hinders)) {
                    return false;
                }
            }
            return true;
        }

        private boolean does(int set, boolean hinders) {
            return hinders ? !law.holds(full & ~set) : law.holds(set);
        }

        private void markNeeded() {
            needed = leastCount > 0 ? full : 0;
            idle = full;
            for (int i = 0; i < leastCount; i++) {
                needed &= least[i];
                idle &= ~least[i];
            }
        }

        private boolean turnsBy(int set, int m) {
            return (set >> m & 1) == 0 && !law.holds(set) && law.holds(set | 1 << m);
        }

        private int countSwings(int m) {
            int found = 0;
            for (int set = 0; set <= full; set++) {
                if (turnsBy(set, m)) {
                    found++;
                }
            }
            return found;
        }

        int countCarrying() {
            int found = 0;
            for (int set = 0; set <= full; set++) {
                if (law.holds(set)) {
                    found++;
                }
            }
            return found;
        }

        boolean isProper() {
            // more members never carry less, so it is enough to look at a set and all others
            for (int set = 0; set <= full; set++) {
                if (law.holds(set) && law.holds(full & ~set)) {
                    return false;
                }
            }
            return true;
        }

        boolean isStrong() {
            for (int set = 0; set <= full; set++) {
                if (!law.holds(set) && !law.holds(full & ~set)) {
                    return false;
                }
            }
            return true;
        }

        boolean isLined() {
            for (int a = 0; a < members; a++) {
                for (int b = 0; b < a; b++) {
                    if (compare(a, b) == 2) {
                        return false;
                    }
                }
            }
            return true;
        }

        /** 1 a is STRONGER than b, -1 b than a, 0 ALIKE, 2 neither. */
        int compare(int a, int b) {
            boolean over = (atLeast[a] >> b & 1) != 0;
            boolean under = (atLeast[b] >> a & 1) != 0;
            if (over) {
                return under ? 0 : 1;
            }
            return under ? -1 : 2;
        }

        private void compareAll() {
            for (int a = 0; a < members; a++) {
                atLeast[a] = 0;
                for (int b = 0; b < members; b++) {
                    if (isAtLeast(a, b)) {
                        atLeast[a] |= 1 << b;
                    }
                }
            }
        }

        private boolean isAtLeast(int a, int b) {
            int both = 1 << a | 1 << b;
            for (int set = 0; set <= full; set++) {
                if ((set & both) == 0 && law.holds(set | 1 << b) && !law.holds(set | 1 << a)) {
                    return false;
                }
            }
            return true;
        }

        long upperShare(int m, int way) {
            if (way == 0) {
                return swings[m];
            }
            return way == 1 ? ordersOf(m) : partsOf(m);
        }

        long lowerShare(int way) {
            if (way == 1) {
                return FACTORIALS[members];
            }
            if (way == 2) {
                return PARTS * leastCount;
            }
            long all = 0;
            for (int m = 0; m < members; m++) {
                all += swings[m];
            }
            return all;
        }

        private long ordersOf(int m) {
            long found = 0;
            for (int set = 0; set <= full; set++) {
                if (turnsBy(set, m)) {
                    int ahead = Integer.bitCount(set);
                    found += FACTORIALS[ahead] * FACTORIALS[members - 1 - ahead];
                }
            }
            return found;
        }

        private long partsOf(int m) {
            long found = 0;
            for (int i = 0; i < leastCount; i++) {
                int sharers = Integer.bitCount(least[i]);
                if ((least[i] >> m & 1) != 0 && sharers > 0) {
                    found += PARTS / sharers;
                }
            }
            return found;
        }

        long chanceOf(int tenths) {
            for (int i = 0; i <= members; i++) {
                bySize[i] = 0;
            }
            for (int set = 0; set <= full; set++) {
                if (law.holds(set)) {
                    bySize[Integer.bitCount(set)]++;
                }
            }
            long sum = 0;
            for (int i = 0; i <= members; i++) {
                sum += bySize[i] * power(tenths, i) * power(10 - tenths, members - i);
            }
            return sum;
        }

        private static long power(int base, int exponent) {
            long product = 1;
            for (int i = 0; i < exponent; i++) {
                product *= base;
            }
            return product;
        }

        int allyOf(int m) {
            int best = NONE;
            int most = NONE;
            for (int other = 0; other < members; other++) {
                int found = other == m ? NONE : countTogether(m, other);
                if (found > most) {
                    most = found;
                    best = other;
                }
            }
            return best;
        }

        private int countTogether(int a, int b) {
            int both = 1 << a | 1 << b;
            int found = 0;
            for (int set = 0; set <= full; set++) {
                if ((set & both) == 0 && law.holds(set | both)
                        && !law.holds(set | 1 << a) && !law.holds(set | 1 << b)) {
                    found++;
                }
            }
            return found;
        }
    }

    /** Looks for weights that would do the same as the statute in force. */
    private static final class Scales {
        static final int MOST_SUM = 60;
        static final int MOST_ROWS = 5000;
        static final int GIVEN_UP = -2;
        private static final int LOOKING = -3;

        final int[] told;
        int toldNumber;
        private final Powers powers;
        // ALIKE members are one class: by the order of their first members, or by rising strength
        private final int[] strengths;
        private final int[] firsts;
        private final int[] sizes;
        private final int[] held;
        private final int[] row;
        private int classes;
        private int sum;
        private int rowCount;
        private int outcome;
        private int lightLeast;
        private int lightHinder;
        private Statute weighedLaw;
        private int weighedMembers;

        Scales(Powers powers) {
            this.powers = powers;
            weighedLaw = powers.law;
            weighedMembers = powers.members;
            told = new int[MOST_MEMBERS];
            strengths = new int[MOST_MEMBERS];
            firsts = new int[MOST_MEMBERS];
            sizes = new int[MOST_MEMBERS];
            held = new int[MOST_MEMBERS];
            row = new int[MOST_MEMBERS];
            for (int m = 0; m < MOST_MEMBERS; m++) {
                told[m] = NONE;
            }
            toldNumber = NONE;
        }

        int look() {
            // the same statute and members give the same answer again, and the same weights
            if (!powers.isOf(weighedLaw, weighedMembers)) {
                weighedLaw = powers.law;
                weighedMembers = powers.members;
                outcome = search();
            }
            return outcome;
        }

        private int search() {
            if (powers.leastCount == 0 || powers.hinderCount == 0 || !powers.isLined()) {
                return NONE;
            }
            findClasses();
            lightLeast = powers.least[0];
            lightHinder = powers.hinder[0];
            rowCount = 0;
            outcome = LOOKING;
            for (sum = 0; sum <= MOST_SUM && outcome == LOOKING; sum++) {
                place(0, sum);
            }
            return outcome == LOOKING ? NONE : outcome;
        }

        private void findClasses() {
            classes = 0;
            for (int m = 0; m < powers.members; m++) {
                if (isFirst(m)) {
                    firsts[classes] = m;
                    classes++;
                }
            }
            for (int c = 0; c < classes; c++) {
                sizes[c] = 0;
                held[c] = NONE;
            }
            for (int m = 0; m < powers.members; m++) {
                strengths[m] = strengthOf(m);
                sizes[strengths[m]]++;
            }
        }

        private boolean isFirst(int m) {
            for (int other = 0; other < m; other++) {
                if (powers.compare(m, other) == 0) {
                    return false;
                }
            }
            return true;
        }

        private int strengthOf(int m) {
            int weaker = 0;
            for (int c = 0; c < classes; c++) {
                if (powers.compare(m, firsts[c]) == 1) {
                    weaker++;
                }
            }
            return weaker;
        }

        /** Weights for the classes from c on, in the order of their first members. */
        private void place(int c, int left) {
            if (c >= classes) {
                if (left == 0) {
                    tryRow();
                }
                return;
            }
            int strength = strengths[firsts[c]];
            int lowest = lowest(strength);
            for (int weight = highest(strength, left); weight >= lowest && outcome == LOOKING; weight--) {
                held[strength] = weight;
                int rest = left - weight * sizes[strength];
                if (leastRest() <= rest && rest <= mostRest()) {
                    place(c + 1, rest);
                }
            }
            held[strength] = NONE;
        }

        private int lowest(int strength) {
            for (int below = strength - 1; below >= 0; below--) {
                if (held[below] != NONE) {
                    return held[below] + strength - below;
                }
            }
            return strength;
        }

        private int highest(int strength, int left) {
            for (int above = strength + 1; above < classes; above++) {
                if (held[above] != NONE) {
                    return held[above] - (above - strength);
                }
            }
            return left;
        }

        private int leastRest() {
            int weight = -1;
            int rest = 0;
            for (int strength = 0; strength < classes; strength++) {
                if (held[strength] != NONE) {
                    weight = held[strength];
                } else {
                    weight++;
                    rest += weight * sizes[strength];
                }
            }
            return rest;
        }

        private int mostRest() {
            int weight = NONE;
            int rest = 0;
            for (int strength = classes - 1; strength >= 0; strength--) {
                if (held[strength] != NONE) {
                    weight = held[strength];
                } else if (weight == NONE) {
                    return MOST_SUM;
                } else {
                    weight--;
                    rest += weight * sizes[strength];
                }
            }
            return rest;
        }

        private void tryRow() {
            rowCount++;
            if (rowCount > MOST_ROWS) {
                outcome = GIVEN_UP;
                return;
            }
            for (int m = 0; m < powers.members; m++) {
                row[m] = held[strengths[m]];
            }
            if (doesTheSame()) {
                outcome = sum;
                tell();
            }
        }

        /**
         * The heaviest SET that does not CARRY is all but the lightest HINDER: it must be lighter
         * than the lightest LEAST.
         */
        private boolean doesTheSame() {
            // what refuted the row ahead mostly refutes this one too
            if (weightOf(lightLeast) + weightOf(lightHinder) <= sum) {
                return false;
            }
            lightLeast = lightest(powers.least, powers.leastCount);
            lightHinder = lightest(powers.hinder, powers.hinderCount);
            return weightOf(lightLeast) + weightOf(lightHinder) > sum;
        }

        private int lightest(int[] sets, int length) {
            int best = sets[0];
            int bestWeight = weightOf(best);
            for (int i = 1; i < length; i++) {
                int other = weightOf(sets[i]);
                if (other < bestWeight) {
                    best = sets[i];
                    bestWeight = other;
                }
            }
            return best;
        }

        private int weightOf(int set) {
            int weight = 0;
            for (int m = 0; m < powers.members; m++) {
                weight += row[m] * (set >> m & 1);
            }
            return weight;
        }

        private void tell() {
            for (int m = 0; m < MOST_MEMBERS; m++) {
                told[m] = m < powers.members ? row[m] : NONE;
            }
            toldNumber = weightOf(lightLeast);
        }
    }

    /** The members' orders of the options, and what follows from them. */
    private static final class Ballot {
        static final int OPTIONS = 7;
        static final int ALL = 127;

        final int[] firstRow;
        boolean ranked;
        private final int[] places;
        private final int[] beaten;
        private final int[] reach;
        private final int[] comeTo;
        private final int[] ways;

        Ballot() {
            firstRow = new int[OPTIONS];
            places = new int[MOST_MEMBERS * OPTIONS];
            beaten = new int[OPTIONS];
            reach = new int[OPTIONS];
            comeTo = new int[OPTIONS];
            ways = new int[(ALL + 1) * OPTIONS];
            for (int i = 0; i < places.length; i++) {
                places[i] = i % OPTIONS;
            }
            for (int i = 0; i < OPTIONS; i++) {
                firstRow[i] = NONE;
            }
        }

        static boolean isOption(int x) {
            return x >= 0 && x < OPTIONS;
        }

        boolean isRow(Tape tape) {
            if (tape.length < 1 || tape.length > OPTIONS) {
                return false;
            }
            int seen = 0;
            for (int i = 0; i < tape.length; i++) {
                int option = tape.at(i);
                if (!isOption(option) || (seen >> option & 1) != 0) {
                    return false;
                }
                seen |= 1 << option;
            }
            return true;
        }

        void order(int m, Tape tape) {
            for (int i = 0; i < OPTIONS; i++) {
                int option = tape.at(i);
                if (isOption(option)) {
                    places[m * OPTIONS + option] = i;
                }
            }
            ranked = true;
        }

        int whoPrefer(int x, int y, int members) {
            int who = 0;
            for (int m = 0; m < members; m++) {
                if (places[m * OPTIONS + x] < places[m * OPTIONS + y]) {
                    who |= 1 << m;
                }
            }
            return who;
        }

        /** beaten[x] is then the options that x BEATS; the methods below use it. */
        void match(Statute law, int members) {
            for (int x = 0; x < OPTIONS; x++) {
                beaten[x] = 0;
                for (int y = 0; y < OPTIONS; y++) {
                    if (x != y && law.holds(whoPrefer(x, y, members))) {
                        beaten[x] |= 1 << y;
                    }
                }
            }
        }

        private boolean wins(int x, int y) {
            return (beaten[x] >> y & 1) != 0;
        }

        int unbeaten() {
            int found = ALL;
            for (int x = 0; x < OPTIONS; x++) {
                found &= ~beaten[x];
            }
            return found;
        }

        int best() {
            findReach();
            int found = 0;
            for (int x = 0; x < OPTIONS; x++) {
                boolean good = true;
                for (int y = 0; y < OPTIONS; y++) {
                    if ((reach[x] >> y & 1) != 0 && (reach[y] >> x & 1) == 0) {
                        good = false;
                    }
                }
                if (good) {
                    found |= 1 << x;
                }
            }
            return found;
        }

        /** reach[y] is then the options to which one comes from y. */
        private void findReach() {
            for (int y = 0; y < OPTIONS; y++) {
                reach[y] = 0;
                for (int x = 0; x < OPTIONS; x++) {
                    if (wins(x, y)) {
                        reach[y] |= 1 << x;
                    }
                }
            }
            for (int over = 0; over < OPTIONS; over++) {
                for (int y = 0; y < OPTIONS; y++) {
                    if ((reach[y] >> over & 1) != 0) {
                        reach[y] |= reach[over];
                    }
                }
            }
        }

        private int stands(int standing, int coming) {
            return wins(coming, standing) ? coming : standing;
        }

        int follow(Tape row) {
            int standing = row.at(0);
            for (int i = 1; i < row.length; i++) {
                standing = stands(standing, row.at(i));
            }
            return standing;
        }

        /** From the last one back: comeTo[x] is what is come to if x stands where i is next. */
        int foresee(Tape row) {
            for (int x = 0; x < OPTIONS; x++) {
                comeTo[x] = x;
            }
            for (int i = row.length - 1; i > 0; i--) {
                int with = comeTo[row.at(i)];
                for (int ahead = 0; ahead < i; ahead++) {
                    int standing = row.at(ahead);
                    comeTo[standing] = stands(comeTo[standing], with);
                }
            }
            return comeTo[row.at(0)];
        }

        int countRows(int x) {
            countWays(x);
            int found = 0;
            for (int first = 0; first < OPTIONS; first++) {
                found += waysFrom(1 << first, first);
            }
            if (found > 0) {
                findFirstRow();
            }
            return found;
        }

        private int waysFrom(int used, int standing) {
            return ways[used * OPTIONS + standing];
        }

        /** How many rows of what is not used yet lead to x, by what is used and what stands. */
        private void countWays(int x) {
            for (int standing = 0; standing < OPTIONS; standing++) {
                ways[ALL * OPTIONS + standing] = standing == x ? 1 : 0;
            }
            for (int used = ALL - 1; used > 0; used--) {
                for (int standing = 0; standing < OPTIONS; standing++) {
                    int found = 0;
                    for (int coming = 0; coming < OPTIONS; coming++) {
                        if ((used >> coming & 1) == 0) {
                            found += waysFrom(used | 1 << coming, stands(standing, coming));
                        }
                    }
                    ways[used * OPTIONS + standing] = found;
                }
            }
        }

        private void findFirstRow() {
            int used = 0;
            int standing = NONE;
            for (int k = 0; k < OPTIONS; k++) {
                for (int coming = 0; coming < OPTIONS; coming++) {
                    int then = standing == NONE ? coming : stands(standing, coming);
                    if ((used >> coming & 1) == 0 && waysFrom(used | 1 << coming, then) > 0) {
                        firstRow[k] = coming;
                        used |= 1 << coming;
                        standing = then;
                        break;
                    }
                }
            }
        }
    }

    /** The votes that were seen. */
    private static final class Chronicle {
        static final int MOST_VOTES = 60;
        static final int CANT = 0;
        static final int SURE = 1;
        static final int OPEN = 2;
        static final int BOTH = 3;

        final int[] sets;
        final int[] days;
        final boolean[] passes;
        int length;

        Chronicle() {
            sets = new int[MOST_VOTES];
            days = new int[MOST_VOTES];
            passes = new boolean[MOST_VOTES];
            length = 0;
        }

        int add(int set, boolean passed, int day) {
            if (length >= MOST_VOTES) {
                return NONE;
            }
            sets[length] = set;
            passes[length] = passed;
            days[length] = day;
            length++;
            return length - 1;
        }

        int judge(int set, int t) {
            boolean sure = false;
            boolean cant = false;
            for (int i = 0; i < length; i++) {
                if (days[i] <= t) {
                    sure |= passes[i] && (sets[i] & ~set) == 0;
                    cant |= !passes[i] && (set & ~sets[i]) == 0;
                }
            }
            if (sure) {
                return cant ? BOTH : SURE;
            }
            return cant ? CANT : OPEN;
        }
    }
}
