/**
 * The edges of options, orders, rows and votes, a test for each sentence that names one (parts 5 and 6 of 'Terms',
 * promises 18 to 28).
 */
public final class EdgeChoiceTests {
    private static final int[] FAR = {Integer.MIN_VALUE, Integer.MIN_VALUE + 1, Integer.MAX_VALUE - 1, Integer.MAX_VALUE};
    private static final String MAJORITY = "carry 2 of [a b c];";
    private static final String NEVER = "carry 4 of [a b c];";
    private static final int[] FIRST = {0, 1, 2, 3, 4, 5, 6};

    public static void main(String[] args) {
        firstOrders();
        ordersTold();
        orderOfNobody();
        notAllOnce();
        ordersEmptyTheTape();
        beatsOfNoneOrOne();
        bothOrNeitherBeats();
        freeOptions();
        topOptions();
        newOrdersNewAnswers();
        rowOfOneToSeven();
        notARow();
        rowsEmptyTheTape();
        standsFromThenOn();
        foreseen();
        howManyRows();
        rowsOfNoOption();
        firstRow();
        oneRowAlone();
        latestRows();
        noSuchPlaceInRow();
        sixtyVotes();
        noSuchSet();
        fitOnItsDay();
        unfitAsOf();
        firstUnfit();
        sure();
        cant();
        bothSureAndCant();
        sureAsOf();
        sureOfNoSet();
        open();
        openAsOf();
        byVotesAlone();
        Check.finish("EdgeChoiceTests");
    }

    private static int[] backwards() {
        return new int[] {6, 5, 4, 3, 2, 1, 0};
    }

    /** 0 over 1, 1 over 2, 2 over 0, and all of them over the rest. */
    private static CarryHouse round() {
        CarryHouse x = Check.house(3, MAJORITY);
        Check.rank(x, 1, 1, 2, 0, 3, 4, 5, 6);
        Check.rank(x, 2, 2, 0, 1, 3, 4, 5, 6);
        return x;
    }

    /** Each alone carries, and they differ so that x BEATS y just if x is less than y, or y and one. */
    private static CarryHouse steps() {
        CarryHouse x = Check.house(3, "carry a or b or c;");
        Check.rank(x, 1, 1, 0, 3, 2, 5, 4, 6);
        Check.rank(x, 2, 0, 2, 1, 4, 3, 6, 5);
        return x;
    }

    private static void pairs(CarryHouse x, int... order) {
        for (int i = 0; i < 7; i++) {
            for (int k = 0; k < 7; k++) {
                int due = i == k ? -1 : i < k ? 1 : 0;
                Check.due("beats(" + order[i] + ", " + order[k] + ")", x.beats(order[i], order[k]), due);
            }
        }
    }

    private static void firstOrders() {
        Check.sentence("OPTIONS 0 .. 6: each MEMBER has them in an ORDER (0, 1, .. at first)");
        for (int n = 1; n <= 12; n++) {
            CarryHouse all = new CarryHouse();
            all.members(n);
            pairs(all, FIRST);
            CarryHouse one = Check.house(n, "carry " + (char) ('a' + n - 1) + ";");
            pairs(one, FIRST);
        }
    }

    private static void ordersTold() {
        Check.sentence("Promise 18: A MEMBER's ORDER is the tape's 7 bytes, OPTIONS from the first one on: true");
        int[][] orders = {{6, 5, 4, 3, 2, 1, 0}, {3, 0, 6, 1, 5, 2, 4}, {0, 1, 2, 3, 4, 6, 5}};
        for (int m = 0; m < 12; m++) {
            CarryHouse x = Check.house(12, "carry " + (char) ('a' + m) + ";");
            for (int[] order : orders) {
                Check.due("rank(" + m + ")", Check.rank(x, m, order), true);
                pairs(x, order);
            }
            Check.due("another's", Check.rank(x, (m + 1) % 12, backwards()), true);
            pairs(x, orders[2]);
        }
    }

    private static void orderOfNobody() {
        Check.sentence("Promise 18: false: no such one");
        for (int n = 1; n <= 12; n++) {
            CarryHouse x = new CarryHouse();
            x.members(n);
            int[] wrong = {-1, n, 12, FAR[0], FAR[3]};
            for (int m : wrong) {
                Check.due("rank(" + m + ") of " + n, Check.rank(x, m, backwards()), false);
            }
            Check.due("not too late for members", x.members(n), true);
            Check.due("the last one", Check.rank(x, n - 1, backwards()), true);
        }
    }

    private static void notAllOnce() {
        Check.sentence("Promise 18: false: .. not all of them once");
        CarryHouse x = Check.house(3, "carry b;");
        int[][] wrong = {
            {}, {0}, {0, 1, 2, 3, 4, 5}, {6, 5, 4, 3, 2, 1}, {6, 5, 4, 3, 2, 1, 1}, {6, 6, 4, 3, 2, 1, 0},
            {7, 5, 4, 3, 2, 1, 0}, {6, 5, 4, 3, 2, 1, 7}, {6, 5, 4, 3, 2, 1, 255}, {134, 5, 4, 3, 2, 1, 0},
            {6, 5, 4, 3, 2, 1, 32}, {6, 5, 4, 3, 2, 1, 0, 0}, {6, 5, 4, 3, 2, 1, 0, 7}, {'6', '5', '4', '3', '2', '1', '0'}
        };
        for (int[] order : wrong) {
            Check.due("rank of " + order.length + " bytes", Check.rank(x, 1, order), false);
            pairs(x, FIRST);
        }
        x.feed(0x06050403, 0x02010000, 0, 0, 0);
        Check.due("rank of 20 bytes", x.rank(1), false);
        pairs(x, FIRST);
    }

    private static void ordersEmptyTheTape() {
        Check.sentence("The tape (empty then, here and below): Promise 18");
        CarryHouse x = new CarryHouse();
        Check.rank(x, 0, FIRST);
        Check.due("told", x.count(4), 0);
        Check.rank(x, 3, FIRST);
        Check.due("of nobody", x.count(4), 0);
        Check.rank(x, 0, 1, 2);
        Check.due("too short", x.count(4), 0);
        x.feed(0, 0, 0, 0, 0);
        x.rank(0);
        Check.due("too long", x.count(4), 0);
        Check.due("then from the first byte on", x.feed(0, 0, 0, 0, 0), 20);
    }

    private static void beatsOfNoneOrOne() {
        Check.sentence("Promise 19: NONE: no such ones, or one");
        CarryHouse x = new CarryHouse();
        int[] wrong = {-1, 7, FAR[0], FAR[3]};
        for (int option = 0; option < 7; option++) {
            Check.due("one", x.beats(option, option), -1);
            for (int other : wrong) {
                Check.due("beats(" + option + ", " + other + ")", x.beats(option, other), -1);
                Check.due("beats(" + other + ", " + option + ")", x.beats(other, option), -1);
                Check.due("beats(" + other + ", " + other + ")", x.beats(other, other), -1);
            }
        }
        Check.due("the first and the last", x.beats(0, 6), 1);
        Check.due("the last and the first", x.beats(6, 0), 0);
    }

    private static void bothOrNeitherBeats() {
        Check.sentence("x BEATS y, if the MEMBERS who have x ahead of y CARRY");
        CarryHouse any = Check.house(2, "carry a or b;");
        Check.rank(any, 1, backwards());
        Check.due("both", any.beats(2, 5) + any.beats(5, 2), 2);
        CarryHouse all = Check.house(2, "carry a and b;");
        Check.rank(all, 1, backwards());
        Check.due("neither", all.beats(2, 5) + all.beats(5, 2), 0);
        CarryHouse never = Check.house(3, NEVER);
        Check.due("where none carries", never.beats(0, 1), 0);
    }

    private static void freeOptions() {
        Check.sentence("FREE: OPTIONS that none BEATS");
        Check.due("none", round().free(), 0);
        Check.due("all", Check.house(3, NEVER).free(), 127);
        Check.due("the first", new CarryHouse().free(), 1);
        CarryHouse last = Check.house(1, "carry a;");
        Check.rank(last, 0, backwards());
        Check.due("the last", last.free(), 64);
    }

    private static void topOptions() {
        Check.sentence("TOP: the OPTIONS to which one comes from each OPTION to which one comes from them");
        Check.due("where none beats", Check.house(3, NEVER).top(), 127);
        Check.due("a round", round().top(), 7);
        Check.due("all in steps", steps().top(), 127);
        Check.due("the first", new CarryHouse().top(), 1);
        CarryHouse last = Check.house(1, "carry a;");
        Check.rank(last, 0, backwards());
        Check.due("the last", last.top(), 64);
        // nobody over 0, nobody over 6, either over the rest
        CarryHouse two = Check.house(2, "carry a and b;");
        Check.rank(two, 0, 0, 6, 1, 2, 3, 4, 5);
        Check.rank(two, 1, 6, 0, 1, 2, 3, 4, 5);
        Check.due("two that are not one round", two.top(), 65);
    }

    private static void newOrdersNewAnswers() {
        Check.sentence("each MEMBER has them in an ORDER: the one told last, and the STATUTE in force TODAY");
        CarryHouse x = round();
        Check.due("a round", x.free(), 0);
        Check.due("a round's top", x.top(), 7);
        Check.due("its rows", x.rows(1), 1680);
        Check.due("its end", Check.leads(x, false, 0, 2, 1), 1);
        Check.rank(x, 2, FIRST);
        Check.due("no round", x.free(), 1);
        Check.due("no round's top", x.top(), 1);
        Check.due("rows then", x.rows(1), 0);
        Check.due("its end then", Check.leads(x, false, 0, 2, 1), 0);
        Check.statute(x, NEVER, 1);
        x.next(1);
        Check.due("none beats", x.free(), 127);
        Check.due("none beats: top", x.top(), 127);
        Check.due("none beats: rows", x.rows(1), 720);
        Check.due("none beats: end", Check.leads(x, false, 2, 0, 1), 2);
        Check.due("none beats: foreseen", Check.leads(x, true, 2, 0, 1), 2);
    }

    private static void rowOfOneToSeven() {
        Check.sentence("A ROW: 1 to 7 OPTIONS");
        CarryHouse x = new CarryHouse();
        for (int option = 0; option < 7; option++) {
            Check.due("one", Check.leads(x, false, option), option);
            Check.due("one, foreseen", Check.leads(x, true, option), option);
        }
        for (int length = 1; length <= 7; length++) {
            int[] row = new int[length];
            for (int i = 0; i < length; i++) {
                row[i] = 6 - i;
            }
            Check.due(length + " of them", Check.leads(x, false, row), 7 - length);
            Check.due(length + " of them, foreseen", Check.leads(x, true, row), 7 - length);
        }
    }

    private static void notARow() {
        Check.sentence("Promise 22: NONE: not as told; each once");
        CarryHouse x = round();
        int[][] wrong = {
            {}, {7}, {255}, {128}, {0, 0}, {6, 6}, {0, 1, 0}, {0, 7}, {7, 0}, {0, 1, 2, 3, 4, 5, 7}, {0, 1, 2, 3, 4, 5, 5},
            {0, 1, 2, 3, 4, 5, 6, 0}, {0, 1, 2, 3, 4, 5, 6, 7}, {'0', '1'}, {0, 1, 2, ' '}
        };
        for (int[] row : wrong) {
            Check.due("leads of " + row.length + " bytes", Check.leads(x, false, row), -1);
            Check.due("foreseen of " + row.length + " bytes", Check.leads(x, true, row), -1);
        }
        x.feed(0x00010203, 0x04050600, 0, 0, 0);
        Check.due("leads of 20 bytes", x.leads(false), -1);
        for (int i = 0; i < 32; i++) {
            x.feed(0x00010203, 0x04050600, 0, 0, 0);
        }
        Check.due("leads of 640 bytes", x.leads(true), -1);
    }

    private static void rowsEmptyTheTape() {
        Check.sentence("The tape (empty then, here and below): Promise 22");
        CarryHouse x = round();
        boolean[] ways = {false, true};
        for (boolean way : ways) {
            Check.leads(x, way, 0, 1, 2);
            Check.due("a row", x.count(4), 0);
            Check.due("it leads but once", x.leads(way), -1);
            Check.leads(x, way, 0, 0);
            Check.due("not a row", x.count(4), 0);
        }
    }

    private static void standsFromThenOn() {
        Check.sentence("one behind the other comes, and stands from then on, if it BEATS the one that stands");
        CarryHouse x = round();
        Check.due("0 1 2", Check.leads(x, false, 0, 1, 2), 2);
        Check.due("1 2 0", Check.leads(x, false, 1, 2, 0), 0);
        Check.due("2 0 1", Check.leads(x, false, 2, 0, 1), 1);
        Check.due("2 1 0", Check.leads(x, false, 2, 1, 0), 0);
        Check.due("3 .. 6", Check.leads(x, false, 3, 4, 5, 6), 3);
        Check.due("6 .. 3", Check.leads(x, false, 6, 5, 4, 3), 3);
        Check.due("the last one decides", Check.leads(x, false, 3, 0, 1, 2, 4, 5, 6), 2);
    }

    private static void foreseen() {
        Check.sentence("FORESEEN: whether the next one stands is judged by what it comes to");
        CarryHouse x = round();
        Check.due("two", Check.leads(x, true, 1, 0), 0);
        Check.due("two that stay", Check.leads(x, true, 0, 1), 0);
        Check.due("0 1 2", Check.leads(x, true, 0, 1, 2), 1);
        Check.due("1 2 0", Check.leads(x, true, 1, 2, 0), 2);
        Check.due("2 0 1", Check.leads(x, true, 2, 0, 1), 0);
        Check.due("2 1 0", Check.leads(x, true, 2, 1, 0), 2);
        Check.due("one that leads to the same", Check.leads(x, true, 3, 4, 0), 0);
        Check.due("3 0 1 2", Check.leads(x, true, 3, 0, 1, 2), 1);
        Check.due("seven", Check.leads(x, true, 6, 5, 4, 3, 2, 1, 0), 2);
        CarryHouse never = Check.house(3, NEVER);
        Check.due("where none carries", Check.leads(never, true, 5, 0, 1), 5);
    }

    private static void howManyRows() {
        Check.sentence("ROWS of all 7 OPTIONS that LEAD TO one (as they come): how many");
        CarryHouse first = new CarryHouse();
        Check.due("all", first.rows(0), 5040);
        for (int option = 1; option < 7; option++) {
            Check.due("none", first.rows(option), 0);
        }
        CarryHouse never = Check.house(3, NEVER);
        CarryHouse each = Check.house(2, "carry a or b;");
        Check.rank(each, 1, backwards());
        int all = 0;
        for (int option = 0; option < 7; option++) {
            Check.due("that begin with it", never.rows(option), 720);
            Check.due("that end with it", each.rows(option), 720);
            all += steps().rows(option);
        }
        Check.due("together", all, 5040);
    }

    private static void rowsOfNoOption() {
        Check.sentence("Promise 23: NONE: no such one");
        CarryHouse x = new CarryHouse();
        x.rows(0);
        int[] wrong = {-1, 7, FAR[0], FAR[1], FAR[2], FAR[3]};
        for (int option : wrong) {
            Check.due("rows(" + option + ")", x.rows(option), -1);
            Check.due("the row told is as it was", x.rowAt(6), 6);
        }
    }

    private static void row(CarryHouse x, int... due) {
        for (int k = 0; k < 7; k++) {
            Check.due("rowAt(" + k + ")", x.rowAt(k), due[k]);
        }
    }

    private static void firstRow() {
        Check.sentence("the first of them (OPTION by OPTION the lesser one)");
        CarryHouse x = round();
        x.rows(0);
        row(x, 1, 2, 0, 3, 4, 5, 6);
        x.rows(1);
        row(x, 0, 2, 1, 3, 4, 5, 6);
        x.rows(2);
        row(x, 0, 1, 2, 3, 4, 5, 6);
        CarryHouse never = Check.house(3, NEVER);
        never.rows(6);
        row(never, 6, 0, 1, 2, 3, 4, 5);
        CarryHouse each = Check.house(2, "carry a or b;");
        Check.rank(each, 1, backwards());
        each.rows(0);
        row(each, 1, 2, 3, 4, 5, 6, 0);
    }

    private static void oneRowAlone() {
        Check.sentence("Promise 24: .. the latest rows() that told one at least: just one");
        CarryHouse x = steps();
        Check.due("rows to the last one", x.rows(6), 1);
        row(x, 0, 1, 2, 3, 4, 5, 6);
        x.rows(0);
        row(x, 1, 0, 2, 3, 4, 5, 6);
        Check.due("rows to the last one again", x.rows(6), 1);
        row(x, 0, 1, 2, 3, 4, 5, 6);
    }

    private static void latestRows() {
        Check.sentence("Promise 24: The k-th OPTION of the first such ROW of the latest rows() that told one at least");
        CarryHouse x = round();
        x.rows(1);
        x.rows(6);
        row(x, 0, 2, 1, 3, 4, 5, 6);
        x.rows(-1);
        x.rows(7);
        row(x, 0, 2, 1, 3, 4, 5, 6);
        Check.rank(x, 0, backwards());
        Check.statute(x, "carry a;", 0);
        row(x, 0, 2, 1, 3, 4, 5, 6);
        x.next(5);
        Check.leads(x, false, 3, 4);
        row(x, 0, 2, 1, 3, 4, 5, 6);
        x.rows(6);
        row(x, FIRST);
    }

    private static void noSuchPlaceInRow() {
        Check.sentence("Promise 24: NONE: there is none such");
        CarryHouse x = new CarryHouse();
        for (int k = -1; k <= 7; k++) {
            Check.due("ahead of any", x.rowAt(k), -1);
        }
        x.rows(3);
        Check.due("none told yet", x.rowAt(0), -1);
        x.rows(0);
        int[] wrong = {-1, 7, 8, FAR[0], FAR[1], FAR[2], FAR[3]};
        for (int k : wrong) {
            Check.due("rowAt(" + k + ")", x.rowAt(k), -1);
        }
        row(x, FIRST);
    }

    private static void sixtyVotes() {
        Check.sentence("VOTES (60); Promise 25: A VOTE: its number; NONE: there are 60");
        CarryHouse x = new CarryHouse();
        for (int i = 0; i < 60; i++) {
            Check.due("vote " + i, x.vote(i == 59 ? 6 : 7, true), i);
            Check.due("how many", x.count(3), i + 1);
        }
        Check.due("a 61st", x.vote(0, true), -1);
        Check.due("a 62nd", x.vote(7, true), -1);
        x.next(1);
        Check.due("on another day", x.vote(7, true), -1);
        Check.due("sixty still", x.count(3), 60);
        Check.due("the 60th counts", x.unfit(0), 59);
        Check.due("the 60th counts here too", x.sure(6, 0), 1);
        Check.due("the 61st does not", x.sure(0, 1), 2);
        CarryHouse fit = new CarryHouse();
        for (int i = 0; i < 60; i++) {
            fit.vote(7, true);
        }
        Check.due("sixty that fit", fit.unfit(0), -1);
    }

    private static void noSuchSet() {
        Check.sentence("Promise 25: NONE: .. no such SET");
        for (int n = 1; n <= 12; n++) {
            CarryHouse x = new CarryHouse();
            x.members(n);
            int[] wrong = {-1, 1 << n, 4096, FAR[0], FAR[3]};
            for (int set : wrong) {
                Check.due("vote(" + set + ") of " + n, x.vote(set, false), -1);
            }
            Check.due("none told", x.count(3), 0);
            Check.due("the empty one", x.vote(0, false), 0);
            Check.due("the last one", x.vote((1 << n) - 1, true), 1);
        }
    }

    private static void fitOnItsDay() {
        Check.sentence("FIT: whether it is as the STATUTE in force on its day tells");
        CarryHouse x = new CarryHouse();
        Check.statute(x, "carry a;", 1);
        x.vote(1, false);
        x.next(1);
        x.vote(1, true);
        x.vote(6, false);
        Check.due("all do", x.unfit(1), -1);
        Check.statute(x, "carry b;", 1);
        Check.due("one told last on that day", x.unfit(1), 1);
        Check.statute(x, "carry a;", 1);
        Check.due("and another", x.unfit(1), -1);
        Check.statute(x, "carry b;", 2);
        Check.due("one of a later day", x.unfit(999), -1);
        x.next(1);
        Check.due("later too", x.unfit(999), -1);
        x.vote(1, true);
        Check.due("passed, but can't", x.unfit(2), 3);
        CarryHouse y = new CarryHouse();
        y.vote(7, false);
        Check.due("not passed, but carries", y.unfit(0), 0);
        CarryHouse z = new CarryHouse();
        z.vote(0, false);
        Check.due("the empty one fits", z.unfit(0), -1);
        z.vote(0, true);
        Check.due("the empty one does not", z.unfit(0), 1);
    }

    private static void unfitAsOf() {
        Check.sentence("Promise 26: AS OF t: a VOTE told on t or ahead");
        CarryHouse x = new CarryHouse();
        x.next(500);
        x.vote(0, true);
        Check.due("the day ahead", x.unfit(499), -1);
        Check.due("its day", x.unfit(500), 0);
        Check.due("the day behind", x.unfit(501), 0);
        Check.due("far behind", x.unfit(FAR[3]), 0);
        Check.due("far ahead", x.unfit(FAR[0]), -1);
        CarryHouse first = new CarryHouse();
        first.vote(0, true);
        Check.due("day -1", first.unfit(-1), -1);
        Check.due("day 0", first.unfit(0), 0);
        CarryHouse last = new CarryHouse();
        last.next(999);
        last.vote(0, true);
        Check.due("day 998", last.unfit(998), -1);
        Check.due("day 999", last.unfit(999), 0);
        Check.due("day 1000", last.unfit(1000), 0);
    }

    private static void firstUnfit() {
        Check.sentence("Promise 26: the first VOTE that does not FIT; NONE: all do");
        CarryHouse x = new CarryHouse();
        Check.due("no votes", x.unfit(0), -1);
        x.vote(7, true);
        Check.due("all do", x.unfit(0), -1);
        x.vote(3, true);
        x.vote(5, true);
        Check.due("the first of two", x.unfit(0), 1);
    }

    private static void sure() {
        Check.sentence("a SET is SURE, if it has all of one that passed");
        CarryHouse x = new CarryHouse();
        x.members(4);
        x.vote(6, true);
        for (int set = 0; set < 16; set++) {
            Check.due("sure(" + set + ")", x.sure(set, 0), (set & 6) == 6 ? 1 : 2);
        }
        x.vote(0, true);
        for (int set = 0; set < 16; set++) {
            Check.due("all have all of the empty one", x.sure(set, 0), 1);
        }
    }

    private static void cant() {
        Check.sentence("it CAN'T, if one that did not pass has all of it");
        CarryHouse x = new CarryHouse();
        x.members(4);
        x.vote(6, false);
        for (int set = 0; set < 16; set++) {
            Check.due("sure(" + set + ")", x.sure(set, 0), (set & 9) == 0 ? 0 : 2);
        }
        x.vote(15, false);
        for (int set = 0; set < 16; set++) {
            Check.due("all has all of each", x.sure(set, 0), 0);
        }
        CarryHouse y = new CarryHouse();
        y.vote(0, false);
        Check.due("the empty one alone", y.open(0), 7);
        Check.due("the empty one can't", y.sure(0, 0), 0);
    }

    private static void bothSureAndCant() {
        Check.sentence("Promise 27: 1 a SET is SURE, 0 it CAN'T, 2 OPEN, 3 both");
        CarryHouse x = new CarryHouse();
        x.vote(3, true);
        x.vote(3, false);
        int[] due = {0, 0, 0, 3, 2, 2, 2, 1};
        for (int set = 0; set < 8; set++) {
            Check.due("sure(" + set + ")", x.sure(set, 0), due[set]);
        }
        Check.due("both is not open", x.open(0), 3);
    }

    private static void sureAsOf() {
        Check.sentence("Promise 27: By VOTES AS OF t");
        CarryHouse x = new CarryHouse();
        x.next(10);
        x.vote(1, true);
        x.next(10);
        x.vote(7, false);
        int[][] due = {{9, 2}, {10, 1}, {19, 1}, {20, 3}, {999, 3}, {1000, 3}, {-1, 2}, {FAR[0], 2}, {FAR[3], 3}};
        for (int[] day : due) {
            Check.due("sure(1, " + day[0] + ")", x.sure(1, day[0]), day[1]);
        }
    }

    private static void sureOfNoSet() {
        Check.sentence("Promise 27: NONE: no such SET");
        for (int n = 1; n <= 12; n++) {
            CarryHouse x = new CarryHouse();
            x.members(n);
            x.vote(0, true);
            int[] wrong = {-1, 1 << n, 4096, FAR[0], FAR[3]};
            for (int set : wrong) {
                Check.due("sure(" + set + ") of " + n, x.sure(set, 0), -1);
            }
            Check.due("the last one", x.sure((1 << n) - 1, 0), 1);
            Check.due("the empty one", x.sure(0, 0), 1);
        }
    }

    private static void open() {
        Check.sentence("Promise 28: How many SETS are OPEN; it is OPEN, if neither");
        for (int n = 1; n <= 12; n++) {
            CarryHouse x = new CarryHouse();
            x.members(n);
            Check.due("all", x.open(0), 1 << n);
            x.vote((1 << n) - 1, true);
            Check.due("all but one", x.open(0), (1 << n) - 1);
            x.vote(0, false);
            Check.due("all but two", x.open(0), (1 << n) - 2);
            x.vote(0, true);
            Check.due("none", x.open(0), 0);
        }
    }

    private static void openAsOf() {
        Check.sentence("Promise 28: OPEN AS OF t");
        CarryHouse x = new CarryHouse();
        x.next(10);
        x.vote(1, true);
        x.next(10);
        x.vote(6, false);
        int[][] due = {{9, 8}, {10, 4}, {19, 4}, {20, 0}, {999, 0}, {1000, 0}, {-1, 8}, {FAR[0], 8}, {FAR[3], 0}};
        for (int[] day : due) {
            Check.due("open(" + day[0] + ")", x.open(day[0]), day[1]);
        }
    }

    private static void byVotesAlone() {
        Check.sentence("By VOTES alone, AS OF t");
        CarryHouse x = Check.house(3, "carry a;");
        Check.due("not by the statute", x.sure(1, 0), 2);
        Check.due("all open", x.open(0), 8);
        x.vote(1, false);
        Check.due("by a vote that does not fit", x.sure(1, 0), 0);
        Check.due("it does not fit", x.unfit(0), 0);
    }
}
