/** Promises 9 to 17: sets, strengths, turns, shares, chances, allies and weights. */
public final class PowerTests {
    private static final String MAJORITY = "carry 2 of [a b c];";
    private static final String CHAIR = "carry a and (b or c);";
    private static final String PAIRS = "carry a and b or c and d;";
    private static final String NEVER = "carry 3 of [a b];";

    public static void main(String[] args) {
        many();
        setAt();
        orderOfSets();
        mostSets();
        stronger();
        turns();
        shares();
        sharesOfTwelve();
        shareThrows();
        chance();
        ally();
        weigh();
        weighEdges();
        weightKept();
        anotherStatute();
        Check.finish("PowerTests");
    }

    private static void kinds(int n, String text, int... due) {
        CarryHouse x = Check.house(n, text);
        for (int kind = 0; kind < due.length; kind++) {
            Check.due("9: '" + text + "' many(" + kind + ")", x.many(kind), due[kind]);
        }
        int[] wrong = {-1, 8, Integer.MIN_VALUE, Integer.MAX_VALUE};
        for (int kind : wrong) {
            Check.due("9: many(" + kind + ")", x.many(kind), -1);
        }
    }

    private static void many() {
        // carrying, LEAST, HINDER, NEEDED, IDLE, PROPER, STRONG, LINED
        kinds(3, MAJORITY, 4, 3, 3, 0, 0, 1, 1, 1);
        kinds(3, CHAIR, 3, 2, 2, 1, 0, 1, 0, 1);
        kinds(4, PAIRS, 7, 2, 4, 0, 0, 0, 0, 0);
        kinds(3, NEVER, 0, 0, 1, 0, 3, 1, 0, 1);
        kinds(3, "carry a or b or c;", 7, 3, 1, 0, 0, 0, 1, 1);
        kinds(4, "carry b;", 8, 1, 1, 1, 3, 1, 1, 1);
        kinds(4, "carry b and c;", 4, 1, 2, 2, 2, 1, 0, 1);
        kinds(4, "carry c and (a or b) or d and b;", 8, 3, 3, 0, 0, 0, 0, 0);
        kinds(1, "carry a;", 1, 1, 1, 1, 0, 1, 1, 1);
        kinds(1, "carry 2 of [a];", 0, 0, 1, 0, 1, 1, 0, 1);
        kinds(12, "carry 6 of [a b c d e f g h i j k l];", 2510, 924, 792, 0, 0, 0, 1, 1);
    }

    private static void sets(CarryHouse x, int kind, int... due) {
        for (int k = 0; k < due.length; k++) {
            Check.due("10: setAt(" + kind + ", " + k + ")", x.setAt(kind, k), due[k]);
        }
        int[] wrong = {-1, due.length, Integer.MIN_VALUE, Integer.MAX_VALUE};
        for (int k : wrong) {
            Check.due("10: setAt(" + kind + ", " + k + ")", x.setAt(kind, k), -1);
        }
    }

    private static void setAt() {
        CarryHouse chair = Check.house(3, CHAIR);
        sets(chair, 1, 3, 5);
        sets(chair, 2, 1, 6);
        sets(chair, 3, 1);
        sets(chair, 4, 0);
        CarryHouse pairs = Check.house(4, PAIRS);
        sets(pairs, 1, 3, 12);
        sets(pairs, 2, 5, 6, 9, 10);
        sets(pairs, 3, 0);
        CarryHouse never = Check.house(3, NEVER);
        sets(never, 1);
        sets(never, 2, 0);
        sets(never, 3, 0);
        sets(never, 4, 7);
        CarryHouse two = Check.house(4, "carry b and c;");
        sets(two, 3, 6);
        sets(two, 4, 9);
        sets(two, 0);
        sets(two, 5);
        sets(two, -1);
        sets(new CarryHouse(), 1, 7);
        sets(new CarryHouse(), 2, 1, 2, 4);
    }

    private static void orderOfSets() {
        CarryHouse x = Check.house(5, "carry e or a and d or b and c or a and b and c or a and b;");
        sets(x, 1, 16, 3, 6, 9);
        CarryHouse y = Check.house(4, "carry a and b and c or d;");
        sets(y, 1, 8, 7);
        sets(y, 2, 9, 10, 12);
    }

    private static void mostSets() {
        CarryHouse x = Check.house(12, "carry 6 of [a b c d e f g h i j k l];");
        Check.due("10: the first of 924", x.setAt(1, 0), 63);
        Check.due("10: the second", x.setAt(1, 1), 95);
        Check.due("10: the last", x.setAt(1, 923), 4032);
        Check.due("10: past the last", x.setAt(1, 924), -1);
        Check.due("10: the last that hinders", x.setAt(2, 791), 4064);
        CarryHouse y = Check.house(12, "carry 7 of [a b c d e f g h i j k l];");
        Check.due("9: as many hinder", y.many(2), 924);
        Check.due("10: the last of them", y.setAt(2, 923), 4032);
        Check.due("10: past them", y.setAt(2, 924), -1);
    }

    private static void stronger() {
        CarryHouse chair = Check.house(3, CHAIR);
        Check.due("11: a than b", chair.stronger(0, 1), 1);
        Check.due("11: b than a", chair.stronger(1, 0), -1);
        Check.due("11: b and c", chair.stronger(1, 2), 0);
        Check.due("11: one", chair.stronger(1, 1), 0);
        CarryHouse pairs = Check.house(4, PAIRS);
        Check.due("11: a and c", pairs.stronger(0, 2), 2);
        Check.due("11: d and b", pairs.stronger(3, 1), 2);
        Check.due("11: a and b", pairs.stronger(0, 1), 0);
        Check.due("11: one of them", pairs.stronger(3, 3), 0);
        CarryHouse twelve = Check.house(12, "carry 2 of [2*l k a];");
        Check.due("11: l than k", twelve.stronger(11, 10), 1);
        Check.due("11: b than a", twelve.stronger(1, 0), -1);
        int[][] wrong = {{-1, 0}, {0, -1}, {3, 0}, {0, 3}, {3, 3}, {-1, -1}, {Integer.MAX_VALUE, 0}, {0, Integer.MIN_VALUE}};
        for (int[] pair : wrong) {
            Check.due("11: no such ones", chair.stronger(pair[0], pair[1]), -2);
        }
    }

    private static void turns() {
        CarryHouse chair = Check.house(3, CHAIR);
        int[] due = {3, 1, 1};
        for (int m = 0; m < 3; m++) {
            Check.due("12: turns(" + m + ")", chair.turns(m), due[m]);
        }
        int[] wrong = {-1, 3, 12, Integer.MIN_VALUE, Integer.MAX_VALUE};
        for (int m : wrong) {
            Check.due("12: turns(" + m + ")", chair.turns(m), -1);
            Check.due("15: ally(" + m + ")", chair.ally(m), -1);
        }
        Check.due("12: one of twelve", Check.house(12, "carry l;").turns(11), 2048);
        Check.due("12: idle", Check.house(12, "carry l;").turns(0), 0);
        Check.due("12: never", Check.house(3, NEVER).turns(0), 0);
    }

    private static void shares() {
        CarryHouse chair = Check.house(3, CHAIR);
        Check.share(chair, 0, 0, 3, 5);
        Check.share(chair, 2, 0, 1, 5);
        Check.share(chair, 0, 1, 2, 3);
        Check.share(chair, 1, 1, 1, 6);
        Check.share(chair, 0, 2, 1, 2);
        Check.share(chair, 2, 2, 1, 4);
        CarryHouse never = Check.house(3, NEVER);
        for (int way = 0; way < 3; way++) {
            Check.share(never, 1, way, 0, 1);
        }
        CarryHouse one = Check.house(4, "carry b;");
        for (int way = 0; way < 3; way++) {
            Check.share(one, 1, way, 1, 1);
            Check.share(one, 3, way, 0, 1);
        }
        CarryHouse mixed = Check.house(5, "carry a or b and c or c and d and e;");
        Check.share(mixed, 0, 2, 1, 3);
        Check.share(mixed, 1, 2, 1, 6);
        Check.share(mixed, 2, 2, 5, 18);
        Check.share(mixed, 4, 2, 1, 9);
    }

    private static void sharesOfTwelve() {
        CarryHouse all = Check.house(12, "carry 12 of [a b c d e f g h i j k l];");
        CarryHouse half = Check.house(12, "carry 6 of [a b c d e f g h i j k l];");
        for (int way = 0; way < 3; way++) {
            Check.share(all, 11, way, 1, 12);
            Check.share(half, 0, way, 1, 12);
        }
        CarryHouse head = Check.house(12, "carry a and 1 of [b c d e f g h i j k l];");
        Check.share(head, 0, 1, 11, 12);
        Check.share(head, 5, 1, 1, 132);
        Check.share(head, 0, 0, 2047, 2058);
        Check.share(head, 11, 0, 1, 2058);
        Check.share(head, 0, 2, 1, 2);
        Check.share(head, 11, 2, 1, 22);
    }

    private static void shareThrows() {
        CarryHouse x = Check.house(3, CHAIR);
        int[][] wrong = {
            {-1, 0, 0}, {3, 0, 0}, {12, 0, 0}, {0, -1, 0}, {0, 3, 0}, {0, 0, -1}, {0, 0, 2},
            {Integer.MIN_VALUE, 0, 0}, {0, Integer.MAX_VALUE, 0}, {0, 0, Integer.MIN_VALUE}
        };
        for (int[] call : wrong) {
            Check.due("13: share throws", Check.shareThrows(x, call[0], call[1], call[2]), true);
        }
        Check.due("13: share does not throw", Check.shareThrows(x, 2, 2, 1), false);
        Check.share(x, 0, 0, 3, 5);
    }

    private static void chance() {
        CarryHouse majority = Check.house(3, MAJORITY);
        long[] due = {0, 28, 104, 216, 352, 500, 648, 784, 896, 972, 1000};
        for (int p = 0; p <= 10; p++) {
            Check.due("14: chance(" + p + ")", majority.chance(p), due[p]);
        }
        int[] wrong = {-1, 11, Integer.MIN_VALUE, Integer.MAX_VALUE};
        for (int p : wrong) {
            Check.due("14: chance(" + p + ")", majority.chance(p), -1);
        }
        CarryHouse all = Check.house(12, "carry 12 of [a b c d e f g h i j k l];");
        Check.due("14: twelve, all sure", all.chance(10), 1000000000000L);
        Check.due("14: twelve, nine tenths", all.chance(9), 282429536481L);
        CarryHouse any = Check.house(12, "carry 1 of [a b c d e f g h i j k l];");
        Check.due("14: twelve, any of them", any.chance(9), 999999999999L);
        Check.due("14: never", Check.house(3, NEVER).chance(10), 0);
    }

    private static void ally() {
        CarryHouse pairs = Check.house(4, "carry a and d or b and c;");
        int[] due = {3, 2, 1, 0};
        for (int m = 0; m < 4; m++) {
            Check.due("15: ally(" + m + ")", pairs.ally(m), due[m]);
        }
        CarryHouse majority = Check.house(3, MAJORITY);
        Check.due("15: of like ones the least", majority.ally(0), 1);
        Check.due("15: of like ones the least, again", majority.ally(2), 0);
        Check.due("15: nobody else", Check.house(1, "carry a;").ally(0), -1);
        Check.due("15: none at all", Check.house(3, NEVER).ally(1), 0);
        Check.due("15: just with both, not with one", Check.house(4, "carry a or b and c and d;").ally(1), 2);
        Check.due("15: no such one", majority.ally(3), -1);
        Check.due("15: no such one below", majority.ally(-1), -1);
        Check.due("15: the most", Check.house(4, "carry a and b and c or a and d;").ally(0), 3);
    }

    private static void weights(int n, String text, int sum, int number, int... due) {
        CarryHouse x = Check.house(n, text);
        Check.due("17: ahead of any", x.weight(0), -1);
        Check.due("16: '" + text + "'", x.weigh(), sum);
        for (int m = 0; m < due.length; m++) {
            Check.due("17: '" + text + "' weight(" + m + ")", x.weight(m), due[m]);
        }
        Check.due("17: '" + text + "' the number", x.weight(12), number);
        int[] wrong = {-1, n, 13, Integer.MIN_VALUE, Integer.MAX_VALUE};
        for (int m : wrong) {
            if (m != 12) {
                Check.due("17: weight(" + m + ")", x.weight(m), -1);
            }
        }
        Check.due("16: again", x.weigh(), sum);
        Check.due("17: and again", x.weight(0), due.length > 0 ? due[0] : -1);
    }

    private static void weigh() {
        weights(3, MAJORITY, 3, 2, 1, 1, 1);
        weights(3, CHAIR, 4, 3, 2, 1, 1);
        weights(4, "carry b;", 1, 1, 0, 1, 0, 0);
        weights(4, "carry a or 3 of [b c d];", 6, 3, 3, 1, 1, 1);
        weights(5, "carry c or 7 of [5*a 5*b 2*d];", 5, 2, 1, 1, 2, 1, 0);
        weights(5, "carry 45 of [25*a 20*b 15*c 10*d 10*e];", 16, 9, 5, 4, 3, 2, 2);
        // rows of the same sum: 7 and 2, or 6 and 3, for two of them; the first of the two has the more
        weights(10, "carry 41 of [10*a 4*b 4*c 0*d 2*e 7*f 10*g 11*h 4*i 8*j];", 60, 41, 10, 4, 4, 0, 3, 6, 10, 11, 4, 8);
        weights(10, "carry 41 of [10*a 7*b 4*c 0*d 4*e 11*f 8*g 10*h 4*i 2*j];", 60, 41, 10, 7, 4, 0, 4, 11, 8, 10, 4, 2);
        weights(1, "carry a;", 1, 1, 1);
        weights(3, NEVER, -1, -1);
        weights(4, PAIRS, -1, -1);
        weights(12, "carry 7 of [a b c d e f g h i j k l];", 12, 7, 1, 1, 1, 1, 1, 1, 1, 1, 1, 1, 1, 1);
    }

    private static void weighEdges() {
        // the 5000th row is the one; the 5001st would be
        Check.due("16: row 5000", Check.house(7, "carry 29 of [13*a 6*b 5*c 11*d 7*e 4*f 10*g];").weigh(), 46);
        Check.due("16: row 5001", Check.house(7, "carry 30 of [13*a 7*b 10*c 2*d 9*e 6*f 11*g];").weigh(), -2);
        String[] weakestFirst = {
            "carry 29 of [1*a 10*b 4*c 3*d 11*e 6*f 7*g 1*h 4*i 9*j];",
            "carry 27 of [1*a 10*b 2*c 8*d 2*e 2*f 4*g 9*h 1*i 2*j 11*k];"
        };
        Check.due("16: row 5000, the weakest first", Check.house(10, weakestFirst[0]).weigh(), 56);
        Check.due("16: row 5001, the weakest first", Check.house(11, weakestFirst[1]).weigh(), -2);
        Check.due("16: sum 60", Check.house(9, "carry 31 of [6*a 10*b 12*c 4*d 0*e 8*f 5*g 3*h 12*i];").weigh(), 60);
        Check.due("16: sum 61", Check.house(9, "carry 34 of [10*a 11*b 9*c 9*d 3*e 4*f 7*g 3*h 11*i];").weigh(), -1);
    }

    private static void weightKept() {
        CarryHouse x = new CarryHouse();
        Check.due("16: three", x.weigh(), 3);
        x.members(5);
        Check.due("17: the latest one had three", x.weight(3), -1);
        Check.due("17: and this one", x.weight(2), 1);
        Check.due("17: their number", x.weight(12), 3);
        x.members(2);
        Check.due("17: no such one now", x.weight(2), -1);
        Check.due("16: two", x.weigh(), 2);
        x.members(3);
        Check.due("17: the latest one had two", x.weight(2), -1);
        Check.due("16: three again", x.weigh(), 3);
        Check.due("17: three again", x.weight(2), 1);
        Check.statute(x, NEVER, 0);
        Check.due("16: none", x.weigh(), -1);
        Check.due("17: that of the latest that told a sum", x.weight(12), 3);
        Check.statute(x, "carry a;", 0);
        Check.due("16: one", x.weigh(), 1);
        Check.due("17: a", x.weight(0), 1);
        Check.due("17: b", x.weight(1), 0);
        CarryHouse y = Check.house(7, MAJORITY);
        y.weigh();
        Check.statute(y, "carry 30 of [13*a 7*b 10*c 2*d 9*e 6*f 11*g];", 0);
        Check.due("16: given up", y.weigh(), -2);
        Check.due("16: given up again", y.weigh(), -2);
        Check.due("17: not by what was given up", y.weight(12), 2);
    }

    /** What was asked of one statute is asked anew of the next. */
    private static void anotherStatute() {
        CarryHouse x = Check.house(3, MAJORITY);
        Check.statute(x, CHAIR, 2);
        Check.due("9: the first", x.many(0), 4);
        Check.due("11: the first", x.stronger(0, 1), 0);
        Check.due("12: the first", x.turns(0), 2);
        x.next(1);
        Check.due("9: still the first", x.many(0), 4);
        x.next(1);
        Check.due("9: the second", x.many(0), 3);
        Check.due("11: the second", x.stronger(0, 1), 1);
        Check.due("12: the second", x.turns(0), 3);
        Check.due("14: the second", x.chance(5), 375);
        Check.due("16: the second", x.weigh(), 4);
        CarryHouse y = new CarryHouse();
        Check.due("9: three", y.many(2), 3);
        y.members(5);
        Check.due("9: five", y.many(2), 5);
        Check.due("14: five", y.chance(2), 32);
    }
}
