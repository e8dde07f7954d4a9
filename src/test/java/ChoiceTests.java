/** Promises 18 to 28: orders, options, rows and votes. */
public final class ChoiceTests {
    private static final String MAJORITY = "carry 2 of [a b c];";

    public static void main(String[] args) {
        rank();
        rankEmptiesTape();
        beats();
        free();
        top();
        leads();
        leadsWrong();
        foreseen();
        rows();
        rowAt();
        vote();
        unfit();
        sure();
        open();
        Check.finish("ChoiceTests");
    }

    /** 0 over 1, 1 over 2, 2 over 0, all of them over 3 .. 6, which all have in their order. */
    private static CarryHouse round() {
        CarryHouse x = Check.house(3, MAJORITY);
        Check.rank(x, 0, 0, 1, 2, 3, 4, 5, 6);
        Check.rank(x, 1, 1, 2, 0, 3, 4, 5, 6);
        Check.rank(x, 2, 2, 0, 1, 3, 4, 5, 6);
        return x;
    }

    private static void rank() {
        CarryHouse x = Check.house(3, "carry b;");
        Check.due("18: the first order", x.beats(0, 6), 1);
        Check.due("18: rank(1)", Check.rank(x, 1, 6, 4, 2, 0, 1, 3, 5), true);
        Check.due("18: 6 over 4", x.beats(6, 4), 1);
        Check.due("18: 4 over 2", x.beats(4, 2), 1);
        Check.due("18: 0 not over 2", x.beats(0, 2), 0);
        Check.due("18: 3 over 5", x.beats(3, 5), 1);
        Check.due("18: rank(3)", Check.rank(x, 3, 0, 1, 2, 3, 4, 5, 6), false);
        Check.due("18: rank(-1)", Check.rank(x, -1, 0, 1, 2, 3, 4, 5, 6), false);
        Check.due("18: rank(max)", Check.rank(x, Integer.MAX_VALUE, 0, 1, 2, 3, 4, 5, 6), false);
        Check.due("18: six", Check.rank(x, 1, 0, 1, 2, 3, 4, 5), false);
        Check.due("18: eight", Check.rank(x, 1, 0, 1, 2, 3, 4, 5, 6, 0), false);
        Check.due("18: none", Check.rank(x, 1), false);
        Check.due("18: one twice", Check.rank(x, 1, 0, 1, 2, 3, 4, 5, 5), false);
        Check.due("18: a 7", Check.rank(x, 1, 0, 1, 2, 3, 4, 5, 7), false);
        Check.due("18: a 255", Check.rank(x, 1, 255, 1, 2, 3, 4, 5, 6), false);
        Check.due("18: a 32", Check.rank(x, 1, 0, 1, 2, 3, 4, 5, 38), false);
        Check.due("18: as it was", x.beats(6, 0), 1);
        Check.due("18: a new one", Check.rank(x, 1, 0, 1, 2, 3, 4, 5, 6), true);
        Check.due("18: no more as it was", x.beats(6, 0), 0);
        Check.due("18: another's order", Check.rank(x, 0, 6, 5, 4, 3, 2, 1, 0), true);
        Check.due("18: does not count here", x.beats(6, 0), 0);
    }

    private static void rankEmptiesTape() {
        CarryHouse x = new CarryHouse();
        Check.rank(x, 0, 0, 1, 2, 3, 4, 5, 6);
        Check.due("18: empty behind a good one", x.count(4), 0);
        Check.rank(x, 0, 0, 1, 2);
        Check.due("18: empty behind a short one", x.count(4), 0);
        Check.rank(x, 9, 0, 1, 2, 3, 4, 5, 6);
        Check.due("18: empty behind no such member", x.count(4), 0);
    }

    private static void beats() {
        CarryHouse x = round();
        Check.due("19: 0 over 1", x.beats(0, 1), 1);
        Check.due("19: 1 over 2", x.beats(1, 2), 1);
        Check.due("19: 2 over 0", x.beats(2, 0), 1);
        Check.due("19: 1 not over 0", x.beats(1, 0), 0);
        Check.due("19: 3 over 4", x.beats(3, 4), 1);
        int[][] wrong = {{0, 0}, {6, 6}, {-1, 0}, {0, -1}, {7, 0}, {0, 7}, {-1, -1}, {7, 7},
            {Integer.MIN_VALUE, 1}, {1, Integer.MAX_VALUE}};
        for (int[] pair : wrong) {
            Check.due("19: beats(" + pair[0] + ", " + pair[1] + ")", x.beats(pair[0], pair[1]), -1);
        }
        CarryHouse any = Check.house(2, "carry a or b;");
        Check.rank(any, 1, 6, 5, 4, 3, 2, 1, 0);
        Check.due("19: both ways", any.beats(0, 1) + any.beats(1, 0), 2);
        Check.statute(any, "carry b;", 0);
        Check.due("19: by the one in force today", any.beats(0, 1), 0);
    }

    private static void free() {
        Check.due("20: the first order", new CarryHouse().free(), 1);
        Check.due("20: a round", round().free(), 0);
        CarryHouse never = Check.house(3, "carry 4 of [a b c];");
        Check.due("20: nothing beats", never.free(), 127);
        CarryHouse x = Check.house(2, "carry a and b;");
        Check.rank(x, 0, 0, 1, 2, 3, 4, 5, 6);
        Check.rank(x, 1, 2, 6, 0, 1, 3, 4, 5);
        Check.due("20: 0 and 2", x.free(), 5);
    }

    private static void top() {
        Check.due("21: the first order", new CarryHouse().top(), 1);
        Check.due("21: a round", round().top(), 7);
        Check.due("21: nothing beats", Check.house(3, "carry 4 of [a b c];").top(), 127);
        CarryHouse any = Check.house(2, "carry a or b;");
        Check.rank(any, 1, 6, 5, 4, 3, 2, 1, 0);
        Check.due("21: all beat all", any.top(), 127);
        CarryHouse x = Check.house(2, "carry a and b;");
        Check.rank(x, 1, 2, 6, 0, 1, 3, 4, 5);
        Check.due("21: 0 and 2, which none beats", x.top(), 5);
        CarryHouse last = Check.house(2, "carry b;");
        Check.rank(last, 1, 6, 5, 4, 3, 2, 1, 0);
        Check.due("21: the last one alone", last.top(), 64);
        Check.due("20: the last one alone", last.free(), 64);
        // a long way round: 0 over 1 over .. over 6 over 0, else the lesser of two members who differ
        CarryHouse way = Check.house(3, MAJORITY);
        Check.rank(way, 0, 6, 0, 1, 2, 3, 4, 5);
        Check.rank(way, 1, 0, 1, 2, 3, 4, 5, 6);
        Check.rank(way, 2, 3, 4, 5, 6, 0, 1, 2);
        Check.due("21: all in one round", way.top(), 127);
        Check.due("20: and none free", way.free(), 0);
    }

    private static void leads() {
        CarryHouse x = round();
        Check.due("22: 0 1 2", Check.leads(x, false, 0, 1, 2), 2);
        Check.due("22: emptied", x.count(4), 0);
        Check.due("22: 1 2 0", Check.leads(x, false, 1, 2, 0), 0);
        Check.due("22: 2 0 1", Check.leads(x, false, 2, 0, 1), 1);
        Check.due("22: 0 2 1", Check.leads(x, false, 0, 2, 1), 1);
        Check.due("22: one", Check.leads(x, false, 5), 5);
        Check.due("22: one foreseen", Check.leads(x, true, 5), 5);
        Check.due("22: seven", Check.leads(x, false, 6, 5, 4, 3, 2, 1, 0), 0);
        Check.due("22: seven foreseen", Check.leads(x, true, 6, 5, 4, 3, 2, 1, 0), 2);
    }

    private static void leadsWrong() {
        CarryHouse x = round();
        int[][] wrong = {{}, {7}, {0, 0}, {0, 1, 2, 3, 4, 5, 6, 6}, {0, 1, 2, 3, 4, 5, 6, 7}, {255}, {0, 1, 0}, {128, 0}};
        for (int[] row : wrong) {
            Check.due("22: not as told", Check.leads(x, false, row), -1);
            Check.due("22: not as told, foreseen", Check.leads(x, true, row), -1);
            Check.due("22: emptied", x.count(4), 0);
        }
        x.feed(0x00010203, 0x04050600, 0, 0, 0);
        Check.due("22: twenty bytes", x.leads(false), -1);
    }

    private static void foreseen() {
        CarryHouse x = round();
        // 0 1 2: with 1, 1 is kept of 1 and 2; without it 2 beats 0: so 1 is let in, being over 2
        Check.due("22: 0 1 2", Check.leads(x, true, 0, 1, 2), 1);
        Check.due("22: 1 2 0", Check.leads(x, true, 1, 2, 0), 2);
        Check.due("22: 0 2 1", Check.leads(x, true, 0, 2, 1), 0);
        Check.due("22: 1 0 2", Check.leads(x, true, 1, 0, 2), 1);
        Check.due("22: two", Check.leads(x, true, 1, 0), 0);
        Check.due("22: two that stay", Check.leads(x, true, 0, 1), 0);
    }

    private static void rows() {
        CarryHouse first = new CarryHouse();
        Check.due("23: the one over all", first.rows(0), 5040);
        Check.due("23: one that is beaten", first.rows(6), 0);
        CarryHouse x = round();
        int[] due = {1680, 1680, 1680, 0, 0, 0, 0};
        for (int option = 0; option < 7; option++) {
            Check.due("23: rows(" + option + ")", x.rows(option), due[option]);
        }
        int[] wrong = {-1, 7, Integer.MIN_VALUE, Integer.MAX_VALUE};
        for (int option : wrong) {
            Check.due("23: rows(" + option + ")", x.rows(option), -1);
        }
        CarryHouse never = Check.house(3, "carry 4 of [a b c];");
        Check.due("23: as many as begin with it", never.rows(3), 720);
        CarryHouse any = Check.house(2, "carry a or b;");
        Check.rank(any, 1, 6, 5, 4, 3, 2, 1, 0);
        Check.due("23: as many as end with it", any.rows(3), 720);
    }

    private static void row(CarryHouse x, int... due) {
        for (int k = 0; k < 7; k++) {
            Check.due("24: rowAt(" + k + ")", x.rowAt(k), due[k]);
        }
    }

    private static void rowAt() {
        CarryHouse x = round();
        Check.due("24: ahead of any", x.rowAt(0), -1);
        x.rows(6);
        Check.due("24: none told yet", x.rowAt(0), -1);
        x.rows(1);
        row(x, 0, 2, 1, 3, 4, 5, 6);
        x.rows(6);
        row(x, 0, 2, 1, 3, 4, 5, 6);
        x.rows(7);
        row(x, 0, 2, 1, 3, 4, 5, 6);
        x.rows(2);
        row(x, 0, 1, 2, 3, 4, 5, 6);
        x.rows(0);
        row(x, 1, 2, 0, 3, 4, 5, 6);
        int[] wrong = {-1, 7, Integer.MIN_VALUE, Integer.MAX_VALUE};
        for (int k : wrong) {
            Check.due("24: rowAt(" + k + ")", x.rowAt(k), -1);
        }
        CarryHouse never = Check.house(3, "carry 4 of [a b c];");
        never.rows(3);
        row(never, 3, 0, 1, 2, 4, 5, 6);
    }

    private static void vote() {
        CarryHouse x = new CarryHouse();
        int[] wrong = {-1, 8, Integer.MIN_VALUE, Integer.MAX_VALUE};
        for (int set : wrong) {
            Check.due("25: vote(" + set + ")", x.vote(set, true), -1);
        }
        for (int i = 0; i < 60; i++) {
            Check.due("25: vote " + i, x.vote(i % 8, i % 2 == 0), i);
        }
        Check.due("25: a 61st", x.vote(0, true), -1);
        Check.due("25: sixty", x.count(3), 60);
        Check.due("26: the first of them", x.unfit(0), 0);
        CarryHouse fit = new CarryHouse();
        for (int i = 0; i < 60; i++) {
            fit.vote(7, true);
        }
        Check.due("26: sixty that fit", fit.unfit(0), -1);
        Check.due("27: sixty", fit.sure(7, 0), 1);
        Check.due("28: sixty", fit.open(0), 7);
    }

    private static void unfit() {
        CarryHouse x = new CarryHouse();
        x.vote(7, true);
        x.vote(3, false);
        Check.due("26: all fit", x.unfit(0), -1);
        x.next(2);
        x.vote(7, false);
        Check.due("26: not yet", x.unfit(1), -1);
        Check.due("26: on 2", x.unfit(2), 2);
        Check.due("26: later too", x.unfit(999), 2);
        Check.due("26: much later", x.unfit(Integer.MAX_VALUE), 2);
        Check.due("26: much ahead", x.unfit(Integer.MIN_VALUE), -1);
        Check.statute(x, "carry 4 of [a b c];", 2);
        Check.due("26: a statute of that day, told behind it", x.unfit(2), -1);
        Check.statute(x, "carry b;", 4);
        Check.due("26: a later one does not count", x.unfit(4), -1);
        x.next(2);
        x.vote(2, true);
        x.vote(5, true);
        x.vote(5, false);
        Check.due("26: the first that does not fit", x.unfit(4), 4);
        Check.due("26: as of 3", x.unfit(3), -1);
    }

    private static void sure() {
        CarryHouse x = new CarryHouse();
        Check.due("27: open", x.sure(0, 0), 2);
        x.next(3);
        x.vote(3, true);
        x.vote(6, false);
        int[] due = {0, 2, 0, 1, 0, 2, 0, 1};
        for (int set = 0; set < 8; set++) {
            Check.due("27: sure(" + set + ", 3)", x.sure(set, 3), due[set]);
            Check.due("27: sure(" + set + ", 2)", x.sure(set, 2), 2);
        }
        x.next(1);
        x.vote(2, true);
        Check.due("27: both", x.sure(2, 4), 3);
        Check.due("27: both, a greater one", x.sure(6, 999), 3);
        Check.due("27: not yet both", x.sure(2, 3), 0);
        Check.due("27: ahead of all", x.sure(2, Integer.MIN_VALUE), 2);
        int[] wrong = {-1, 8, Integer.MIN_VALUE, Integer.MAX_VALUE};
        for (int set : wrong) {
            Check.due("27: sure(" + set + ")", x.sure(set, 4), -1);
        }
        Check.statute(x, "carry c;", 4);
        Check.due("27: by votes alone", x.sure(4, 4), 0);
    }

    private static void open() {
        CarryHouse x = new CarryHouse();
        Check.due("28: all eight", x.open(0), 8);
        x.next(3);
        x.vote(3, true);
        x.vote(6, false);
        Check.due("28: as of 2", x.open(2), 8);
        Check.due("28: as of 3", x.open(3), 2);
        Check.due("28: as of -5", x.open(-5), 8);
        x.vote(0, true);
        Check.due("28: none", x.open(999), 0);
        CarryHouse y = new CarryHouse();
        y.members(12);
        Check.due("28: of twelve", y.open(0), 4096);
        y.vote(1, true);
        Check.due("28: half of them", y.open(0), 2048);
    }
}
