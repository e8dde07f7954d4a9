/**
 * The edges of what the statute in force makes of the members, a test for each sentence that names one (parts 2 to 4
 * of 'Terms', promises 9 to 17).
 */
public final class EdgePowerTests {
    private static final int[] FAR = {Integer.MIN_VALUE, Integer.MIN_VALUE + 1, Integer.MAX_VALUE - 1, Integer.MAX_VALUE};
    private static final String MAJORITY = "carry 2 of [a b c];";
    private static final String NEVER = "carry 4 of [a b c];";
    private static final String SIX_OF_TWELVE = "carry 6 of [a b c d e f g h i j k l];";
    private static final String GIVEN_UP = "carry 30 of [13*a 7*b 10*c 2*d 9*e 6*f 11*g];";

    public static void main(String[] args) {
        emptySetNeverCarries();
        whereNoneCarries();
        orderOfSets();
        nobodyMayBeLeftOut();
        needed();
        idle();
        proper();
        strong();
        lined();
        anotherKind();
        setsAt();
        noSuchSetAt();
        strongerOrAlike();
        noSuchOnes();
        turns();
        shareWithoutCommonDivisor();
        sharesAreOne();
        nothingToPart();
        shareThrows();
        chanceEdges();
        noSuchTenths();
        allyJustWithBoth();
        allyOfLikeOnes();
        noOtherOne();
        alikeWeights();
        leastSum();
        firstOfLikeSums();
        leastNumber();
        upTo60();
        givenUp();
        countedAnew();
        notLined();
        noWeightsWhereNoneCarries();
        latestSum();
        noSuchWeight();
        Check.finish("EdgePowerTests");
    }

    private static void sets(CarryHouse x, int kind, int... due) {
        Check.due("many(" + kind + ")", x.many(kind), due.length);
        for (int k = 0; k < due.length; k++) {
            Check.due("setAt(" + kind + ", " + k + ")", x.setAt(kind, k), due[k]);
        }
        Check.due("setAt behind the last of kind " + kind, x.setAt(kind, due.length), -1);
    }

    private static void emptySetNeverCarries() {
        Check.sentence("Where the empty SET CARRIES: a NUMBER is 1 at least, so that it never does");
        String[] texts = {"carry a;", "carry 1 of [a];", "carry 1 of [0*a 0*b 999*c];", "carry 1 of [1 of [1 of [b]]];",
            "body aa:1 of [0*a];carry aa or b;", "carry a or b or c;", NEVER};
        for (String text : texts) {
            CarryHouse x = Check.house(3, text);
            Check.due("'" + text + "'", x.carries(0, 0), 0);
            Check.due("'" + text + "' hinders", x.many(2) > 0, true);
        }
        for (int n = 1; n <= 12; n++) {
            CarryHouse x = new CarryHouse();
            x.members(n);
            Check.due("without statutes", x.carries(0, 0), 0);
        }
    }

    private static void whereNoneCarries() {
        Check.sentence("where none CARRIES: no LEAST, and the empty SET is the one HINDER");
        for (int n = 1; n <= 12; n++) {
            CarryHouse x = Check.house(n, "carry 2 of [a];");
            Check.due("none carries", x.many(0), 0);
            sets(x, 1);
            sets(x, 2, 0);
            Check.due("not even all", x.carries((1 << n) - 1, 0), 0);
        }
    }

    private static void orderOfSets() {
        Check.sentence("Both in order: fewer MEMBERS first, of as many the lesser number");
        CarryHouse x = Check.house(5, "carry a and b and c or e or b and d or a and d or c and d;");
        sets(x, 1, 16, 9, 10, 12, 7);
        sets(x, 2, 25, 26, 28, 23);
        CarryHouse y = Check.house(12, SIX_OF_TWELVE);
        Check.due("924 of them", y.many(1), 924);
        for (int k = 1; k < 924; k++) {
            Check.due("rising numbers", y.setAt(1, k - 1) < y.setAt(1, k), true);
            Check.due("six each", Integer.bitCount(y.setAt(1, k)), 6);
        }
        Check.due("the last one", y.setAt(1, 923), 4032);
        Check.due("none behind it", y.setAt(1, 924), -1);
        CarryHouse z = Check.house(12, SIX_OF_TWELVE.replace('6', '7'));
        Check.due("924 that hinder", z.many(2), 924);
        Check.due("the last that hinders", z.setAt(2, 923), 4032);
    }

    private static void nobodyMayBeLeftOut() {
        Check.sentence("SETS .., from which nobody may be left out");
        CarryHouse x = Check.house(3, "carry a or a and b or a and b and c;");
        sets(x, 1, 1);
        sets(x, 2, 1);
        CarryHouse all = new CarryHouse();
        sets(all, 1, 7);
        sets(all, 2, 1, 2, 4);
        CarryHouse one = Check.house(1, "carry a;");
        sets(one, 1, 1);
        sets(one, 2, 1);
    }

    private static void needed() {
        Check.sentence("NEEDED is who is in all LEAST (there being any)");
        CarryHouse never = Check.house(3, NEVER);
        Check.due("there being none", never.many(3), 0);
        Check.due("there being none, as bits", never.setAt(3, 0), 0);
        CarryHouse all = new CarryHouse();
        Check.due("all", all.many(3), 3);
        Check.due("all, as bits", all.setAt(3, 0), 7);
        CarryHouse none = Check.house(3, MAJORITY);
        Check.due("none", none.many(3), 0);
        Check.due("none, as bits", none.setAt(3, 0), 0);
        CarryHouse one = Check.house(3, "carry b and (a or c);");
        Check.due("one", one.many(3), 1);
        Check.due("one, as bits", one.setAt(3, 0), 2);
        CarryHouse twelve = new CarryHouse();
        twelve.members(12);
        Check.due("twelve", twelve.many(3), 12);
        Check.due("twelve, as bits", twelve.setAt(3, 0), 4095);
    }

    private static void idle() {
        Check.sentence("IDLE who is in none");
        CarryHouse never = Check.house(12, NEVER);
        Check.due("all, where none carries", never.many(4), 12);
        Check.due("all, as bits", never.setAt(4, 0), 4095);
        CarryHouse none = Check.house(3, MAJORITY);
        Check.due("none", none.many(4), 0);
        Check.due("none, as bits", none.setAt(4, 0), 0);
        CarryHouse told = Check.house(3, "carry a or a and b;");
        Check.due("told, but in none", told.many(4), 2);
        Check.due("as bits", told.setAt(4, 0), 6);
    }

    private static void proper() {
        Check.sentence("PROPER: no two SETS without a MEMBER in common CARRY");
        Check.due("2 of 4", Check.house(4, "carry 2 of [a b c d];").many(5), 0);
        Check.due("3 of 4", Check.house(4, "carry 3 of [a b c d];").many(5), 1);
        Check.due("small ones apart", Check.house(4, "carry a or b;").many(5), 0);
        Check.due("where none carries", Check.house(4, NEVER).many(5), 1);
        Check.due("one member", Check.house(1, "carry a;").many(5), 1);
    }

    private static void strong() {
        Check.sentence("STRONG: of each SET and all others one CARRIES");
        Check.due("2 of 4", Check.house(4, "carry 2 of [a b c d];").many(6), 1);
        Check.due("3 of 4", Check.house(4, "carry 3 of [a b c d];").many(6), 0);
        Check.due("both of them", Check.house(4, "carry a or b or c or d;").many(6), 1);
        Check.due("where none carries", Check.house(4, NEVER).many(6), 0);
        Check.due("one member", Check.house(1, "carry a;").many(6), 1);
        Check.due("one of two", Check.house(2, "carry b;").many(6), 1);
        Check.due("both of two", Check.house(2, "carry a and b;").many(6), 0);
    }

    private static void lined() {
        Check.sentence("LINED: of any two one is STRONGER, or they are ALIKE");
        Check.due("one member", Check.house(1, "carry a;").many(7), 1);
        Check.due("where none carries", Check.house(4, NEVER).many(7), 1);
        Check.due("two pairs", Check.house(4, "carry a and b or c and d;").many(7), 0);
        Check.due("only the last two are neither", Check.house(5, "carry a or b and d or c and e;").many(7), 0);
        Check.due("only the first two are neither", Check.house(5, "carry e or a and c or b and d;").many(7), 0);
    }

    private static void anotherKind() {
        Check.sentence("Promise 9: NONE for another kind");
        CarryHouse x = Check.house(3, MAJORITY);
        int[] wrong = {-1, 8, 9};
        for (int kind : wrong) {
            Check.due("many(" + kind + ")", x.many(kind), -1);
        }
        for (int kind : FAR) {
            Check.due("many(" + kind + ")", x.many(kind), -1);
        }
        Check.due("all sets but one", Check.house(12, "carry 1 of [a b c d e f g h i j k l];").many(0), 4095);
    }

    private static void setsAt() {
        Check.sentence("Promise 10: The k-th (0 the first) LEAST (kind 1), HINDER (2), as bits; "
            + "NEEDED (3), IDLE (4), all as bits (k 0)");
        CarryHouse x = Check.house(4, "carry a and (b or c);");
        Check.due("the first", x.setAt(1, 0), 3);
        Check.due("the last", x.setAt(1, 1), 5);
        Check.due("the first that hinders", x.setAt(2, 0), 1);
        Check.due("the last that hinders", x.setAt(2, 1), 6);
        Check.due("needed", x.setAt(3, 0), 1);
        Check.due("idle", x.setAt(4, 0), 8);
    }

    private static void noSuchSetAt() {
        Check.sentence("Promise 10: NONE: there is none such, or another kind");
        CarryHouse x = Check.house(4, "carry a and (b or c);");
        int[] counts = {0, 2, 2, 1, 1, 0, 0, 0};
        for (int kind = -1; kind <= 8; kind++) {
            int behind = kind < 0 || kind > 7 ? 0 : counts[kind];
            Check.due("behind the last of kind " + kind, x.setAt(kind, behind), -1);
            Check.due("ahead of the first of kind " + kind, x.setAt(kind, -1), -1);
            for (int far : FAR) {
                Check.due("far, of kind " + kind, x.setAt(kind, far), -1);
            }
        }
        for (int far : FAR) {
            Check.due("kind " + far, x.setAt(far, 0), -1);
        }
    }

    private static void strongerOrAlike() {
        Check.sentence("Promise 11: 1 a is STRONGER than b, -1 b than a, 0 they are ALIKE (or one), 2 neither");
        CarryHouse x = Check.house(5, "carry a and b or c and d;");
        int[][] due = {{0, 0, 2, 2, 1}, {0, 0, 2, 2, 1}, {2, 2, 0, 0, 1}, {2, 2, 0, 0, 1}, {-1, -1, -1, -1, 0}};
        for (int a = 0; a < 5; a++) {
            for (int b = 0; b < 5; b++) {
                Check.due("stronger(" + a + ", " + b + ")", x.stronger(a, b), due[a][b]);
            }
        }
        CarryHouse never = Check.house(3, NEVER);
        Check.due("where none carries", never.stronger(0, 2), 0);
        Check.due("one of one", Check.house(1, "carry a;").stronger(0, 0), 0);
        Check.due("by one set alone", Check.house(3, "carry a and c;").stronger(0, 1), 1);
    }

    private static void noSuchOnes() {
        Check.sentence("Promise 11: -2: no such ones");
        for (int n = 1; n <= 12; n++) {
            CarryHouse x = new CarryHouse();
            x.members(n);
            Check.due("the last one", x.stronger(0, n - 1), 0);
            int[] wrong = {-1, n, 12, FAR[0], FAR[3]};
            for (int m : wrong) {
                Check.due("stronger(" + m + ", 0)", x.stronger(m, 0), -2);
                Check.due("stronger(0, " + m + ")", x.stronger(0, m), -2);
                Check.due("stronger(" + m + ", " + m + ")", x.stronger(m, m), -2);
            }
        }
    }

    private static void turns() {
        Check.sentence("Promise 12: TURNS of a MEMBER; NONE: no such one");
        for (int n = 1; n <= 12; n++) {
            CarryHouse x = Check.house(n, "carry " + (char) ('a' + n - 1) + ";");
            Check.due("all turns", x.turns(n - 1), 1 << n - 1);
            Check.due("no turns", x.turns(0), n == 1 ? 1 : 0);
            int[] wrong = {-1, n, 12, FAR[0], FAR[3]};
            for (int m : wrong) {
                Check.due("turns(" + m + ") of " + n, x.turns(m), -1);
            }
        }
        Check.due("where none carries", Check.house(3, NEVER).turns(0), 0);
    }

    private static long divisor(long a, long b) {
        return b == 0 ? a : divisor(b, a % b);
    }

    private static void shareWithoutCommonDivisor() {
        Check.sentence("an exact fraction told by two numbers without a divisor in common (0 is 0 by 1)");
        Check.share(Check.house(3, "carry a and (b or c);"), 0, 0, 3, 5);
        Check.share(Check.house(3, "carry a and (b or c);"), 1, 0, 1, 5);
        Check.share(Check.house(4, "carry 2 of [a b];"), 0, 0, 1, 2);
        Check.share(Check.house(4, "carry 2 of [a b];"), 3, 0, 0, 1);
        Check.share(Check.house(4, "carry 2 of [a b];"), 3, 1, 0, 1);
        Check.share(Check.house(4, "carry 2 of [a b];"), 3, 2, 0, 1);
        Check.share(Check.house(4, "carry d;"), 3, 0, 1, 1);
        Check.share(Check.house(4, "carry d;"), 3, 1, 1, 1);
        Check.share(Check.house(4, "carry d;"), 3, 2, 1, 1);
        CarryHouse x = Check.house(12, "carry a or 11 of [b c d e f g h i j k l];");
        Check.share(x, 0, 1, 11, 12);
        Check.share(x, 11, 1, 1, 132);
        Check.share(x, 0, 0, 2047, 2058);
    }

    private static void sharesAreOne() {
        Check.sentence("SHARE: of sets, of orders, of LEAST: all of them together are one");
        String[] texts = {"carry 14 of [1*a 2*b 3*c 4*d 5*e 6*f 7*g];", "carry a and b or c and (d or e) or f and g and a;",
            SIX_OF_TWELVE, "carry 2 of [l k] or 3 of [a b c d e f g h];"};
        for (String text : texts) {
            CarryHouse x = Check.house(12, text);
            for (int way = 0; way < 3; way++) {
                long upper = 0;
                long lower = 1;
                for (int m = 0; m < 12; m++) {
                    long a = x.share(m, way, 0);
                    long b = x.share(m, way, 1);
                    Check.due("no divisor in common", divisor(a, b), 1);
                    upper = upper * b + a * lower;
                    lower = lower * b;
                    long common = divisor(upper, lower);
                    upper /= common;
                    lower /= common;
                }
                Check.due("way " + way + " of '" + text + "'", upper == 1 && lower == 1, true);
            }
        }
    }

    private static void nothingToPart() {
        Check.sentence("0, where there is nothing to part");
        for (int n = 1; n <= 12; n++) {
            CarryHouse x = Check.house(n, "carry 2 of [a];");
            for (int way = 0; way < 3; way++) {
                Check.share(x, 0, way, 0, 1);
                Check.share(x, n - 1, way, 0, 1);
            }
        }
    }

    private static void shareThrows() {
        Check.sentence("Promise 13: NoSuchElementException: no such MEMBER, way, what");
        for (int n = 1; n <= 12; n++) {
            CarryHouse x = new CarryHouse();
            x.members(n);
            int[] members = {-1, n, 12, FAR[0], FAR[3]};
            for (int m : members) {
                Check.due("member " + m + " of " + n, Check.shareThrows(x, m, 0, 0), true);
            }
            Check.due("the last one", Check.shareThrows(x, n - 1, 2, 1), false);
        }
        CarryHouse y = new CarryHouse();
        int[] ways = {-1, 3, FAR[0], FAR[3]};
        int[] whats = {-1, 2, FAR[0], FAR[3]};
        for (int way : ways) {
            Check.due("way " + way, Check.shareThrows(y, 0, way, 0), true);
        }
        for (int what : whats) {
            Check.due("what " + what, Check.shareThrows(y, 0, 0, what), true);
        }
        for (int way = 0; way < 3; way++) {
            Check.due("way " + way, Check.shareThrows(y, 0, way, 0) || Check.shareThrows(y, 0, way, 1), false);
        }
        CarryHouse never = Check.house(3, NEVER);
        Check.due("where there is nothing to part too", Check.shareThrows(never, 3, 0, 0), true);
        Check.due("but not for who is there", Check.shareThrows(never, 2, 2, 1), false);
    }

    private static void chanceEdges() {
        Check.sentence("Promise 14: CHANCE with p tenths (0 to 10): the upper number (10 to the n-th is the lower one)");
        long all = 1;
        for (int n = 1; n <= 12; n++) {
            all *= 10;
            CarryHouse x = new CarryHouse();
            x.members(n);
            Check.due("all out", x.chance(0), 0);
            Check.due("all in", x.chance(10), all);
            Check.due("one tenth each", x.chance(1), 1);
            CarryHouse one = Check.house(n, "carry a;");
            Check.due("nine tenths of one", one.chance(9), all / 10 * 9);
            CarryHouse never = Check.house(n, "carry 2 of [a];");
            Check.due("none carries", never.chance(10), 0);
        }
        Check.due("of 10 to the 12th all but one", Check.house(12, "carry 1 of [a b c d e f g h i j k l];").chance(9), all - 1);
    }

    private static void noSuchTenths() {
        Check.sentence("Promise 14: NONE: no such p");
        CarryHouse x = new CarryHouse();
        int[] wrong = {-1, 11, 100};
        for (int p : wrong) {
            Check.due("chance(" + p + ")", x.chance(p), -1);
        }
        for (int p : FAR) {
            Check.due("chance(" + p + ")", x.chance(p), -1);
        }
    }

    private static void allyJustWithBoth() {
        Check.sentence("the most SETS without both CARRY just with both put in");
        Check.due("not where the other one is enough", Check.house(3, "carry a or b and c;").ally(1), 2);
        Check.due("not where this one is enough", Check.house(4, "carry 2 of [a c d];").ally(0), 2);
        Check.due("the most", Check.house(4, "carry a and d or a and b and c;").ally(0), 3);
        Check.due("the most of the last one", Check.house(12, "carry a and b and l or k and l;").ally(11), 10);
        Check.due("the last one is the most", Check.house(12, "carry a and b and c or a and l;").ally(0), 11);
    }

    private static void allyOfLikeOnes() {
        Check.sentence("of like ones the least");
        CarryHouse x = Check.house(12, SIX_OF_TWELVE);
        for (int m = 0; m < 12; m++) {
            Check.due("ally(" + m + ")", x.ally(m), m == 0 ? 1 : 0);
        }
        CarryHouse never = Check.house(3, NEVER);
        Check.due("with none at all", never.ally(0), 1);
        Check.due("with none at all, of the last", never.ally(2), 0);
        Check.due("of one who is idle", Check.house(3, "carry b and c;").ally(0), 1);
    }

    private static void noOtherOne() {
        Check.sentence("Promise 15: NONE: no such one, or no other one");
        Check.due("alone", Check.house(1, "carry a;").ally(0), -1);
        Check.due("alone, and none carries", Check.house(1, "carry 2 of [a];").ally(0), -1);
        Check.due("two", Check.house(2, "carry a;").ally(0), 1);
        Check.due("two, the other one", Check.house(2, "carry a;").ally(1), 0);
        for (int n = 1; n <= 12; n++) {
            CarryHouse x = new CarryHouse();
            x.members(n);
            int[] wrong = {-1, n, 12, FAR[0], FAR[3]};
            for (int m : wrong) {
                Check.due("ally(" + m + ") of " + n, x.ally(m), -1);
            }
        }
    }

    private static void weights(CarryHouse x, int number, int... due) {
        for (int m = 0; m < due.length; m++) {
            Check.due("weight(" + m + ")", x.weight(m), due[m]);
        }
        Check.due("the NUMBER", x.weight(12), number);
    }

    private static void alikeWeights() {
        Check.sentence("ALIKE ones having like WEIGHTS, STRONGER ones greater");
        // these weights' sum is 38, but c and f are ALIKE
        CarryHouse x = Check.house(8, "carry 15 of [6*a 4*b 1*c 6*d 11*e 2*f 4*g 4*h];");
        Check.due("c and f", x.stronger(2, 5), 0);
        Check.due("their sum", x.weigh(), 46);
        weights(x, 18, 7, 5, 2, 7, 13, 2, 5, 5);
        // nor can the weakest of three be as light as who is idle
        CarryHouse y = Check.house(4, "carry a and (b or c);");
        Check.due("greater than 0", y.weigh(), 4);
        weights(y, 3, 2, 1, 1, 0);
    }

    private static void leastSum() {
        Check.sentence("of all such the least sum of WEIGHTS");
        CarryHouse x = Check.house(3, "carry 90 of [50*a 45*b 44*c];");
        Check.due("the last is none the less worth something", x.weigh(), 4);
        weights(x, 3, 2, 1, 1);
        CarryHouse y = Check.house(12, "carry 999 of [999*l 998*a];");
        Check.due("one alone", y.weigh(), 1);
        weights(y, 1, 0, 0, 0, 0, 0, 0, 0, 0, 0, 0, 0, 1);
        CarryHouse z = Check.house(1, "carry a;");
        Check.due("one of one", z.weigh(), 1);
        weights(z, 1, 1);
    }

    private static void firstOfLikeSums() {
        Check.sentence("of like ones the first (by MEMBERS, the greater WEIGHT first)");
        CarryHouse x = Check.house(10, "carry 41 of [10*a 4*b 4*c 0*d 2*e 7*f 10*g 11*h 4*i 8*j];");
        Check.due("sum", x.weigh(), 60);
        weights(x, 41, 10, 4, 4, 0, 3, 6, 10, 11, 4, 8);
        CarryHouse y = Check.house(10, "carry 41 of [10*a 7*b 4*c 0*d 4*e 11*f 8*g 10*h 4*i 2*j];");
        Check.due("sum", y.weigh(), 60);
        weights(y, 41, 10, 7, 4, 0, 4, 11, 8, 10, 4, 2);
    }

    private static void leastNumber() {
        Check.sentence("the NUMBER is the least sum of a SET that CARRIES");
        CarryHouse x = Check.house(3, "carry 7 of [5*a 4*b 4*c];");
        Check.due("sum", x.weigh(), 3);
        weights(x, 2, 1, 1, 1);
        CarryHouse y = Check.house(5, "carry 45 of [25*a 20*b 15*c 10*d 10*e];");
        Check.due("sum", y.weigh(), 16);
        weights(y, 9, 5, 4, 3, 2, 2);
        CarryHouse all = new CarryHouse();
        all.members(12);
        Check.due("all twelve", all.weigh(), 12);
        Check.due("all of them", all.weight(12), 12);
    }

    private static void upTo60() {
        Check.sentence("Looked for by rising sums, up to 60; Promise 16: NONE: .. none up to the sum 60");
        Check.due("sum 60", Check.house(9, "carry 31 of [6*a 10*b 12*c 4*d 0*e 8*f 5*g 3*h 12*i];").weigh(), 60);
        Check.due("sum 61", Check.house(9, "carry 34 of [10*a 11*b 9*c 9*d 3*e 4*f 7*g 3*h 11*i];").weigh(), -1);
        CarryHouse never = Check.house(7, "carry 1 of [a e g] and 3 of [a b c d e f g];");
        Check.due("lined", never.many(7), 1);
        Check.due("at no sum", never.weigh(), -1);
        Check.due("no number", never.weight(12), -1);
    }

    private static void givenUp() {
        Check.sentence("each row of WEIGHTS .. counts 1; more than 5000: it is given up; Promise 16: -2");
        Check.due("row 5000", Check.house(7, "carry 29 of [13*a 6*b 5*c 11*d 7*e 4*f 10*g];").weigh(), 46);
        CarryHouse x = Check.house(7, GIVEN_UP);
        Check.due("row 5001", x.weigh(), -2);
        Check.due("no weight", x.weight(0), -1);
        Check.due("no number", x.weight(12), -1);
        Check.due("row 5000, the weakest first",
            Check.house(10, "carry 29 of [1*a 10*b 4*c 3*d 11*e 6*f 7*g 1*h 4*i 9*j];").weigh(), 56);
        Check.due("row 5001, the weakest first",
            Check.house(11, "carry 27 of [1*a 10*b 2*c 8*d 2*e 2*f 4*g 9*h 1*i 2*j 11*k];").weigh(), -2);
        CarryHouse lined = Check.house(8, "carry 7 of [a c 4*d 2*f h] and 7 of [a b c 3*d e f g h];");
        Check.due("lined, but no weights do", lined.many(7), 1);
        Check.due("given up ahead of 60", lined.weigh(), -2);
    }

    private static void countedAnew() {
        Check.sentence("more than 5000: it is given up: each time counted anew");
        CarryHouse x = Check.house(7, GIVEN_UP);
        Check.due("given up", x.weigh(), -2);
        Check.statute(x, "carry 29 of [13*a 6*b 5*c 11*d 7*e 4*f 10*g];", 0);
        Check.due("all 5000 again", x.weigh(), 46);
        Check.statute(x, "carry a;", 0);
        Check.due("few", x.weigh(), 1);
        Check.statute(x, "carry 29 of [13*a 6*b 5*c 11*d 7*e 4*f 10*g];", 0);
        Check.due("and again", x.weigh(), 46);
    }

    private static void notLined() {
        Check.sentence("Promise 16: NONE: not LINED");
        Check.due("two pairs", Check.house(4, "carry a and b or c and d;").weigh(), -1);
        String five = "carry 13 of [8*a 4*b 4*c 6*d 3*e] or 13 of [7*a 4*b 8*c 5*e];";
        Check.due("with many rows", Check.house(5, five).weigh(), -1);
        String nine = "carry 15 of [2*a b 4*c 4*d 7*e 3*f g 3*h 3*i] or 15 of [4*a b 3*c 6*e 4*f 4*g 7*h];";
        Check.due("with many rows, of nine", Check.house(9, nine).weigh(), -1);
    }

    private static void noWeightsWhereNoneCarries() {
        Check.sentence("None, where no SET, or the empty one, CARRIES");
        for (int n = 1; n <= 12; n++) {
            CarryHouse x = Check.house(n, "carry 2 of [a];");
            Check.due("weigh", x.weigh(), -1);
            Check.due("weight(0)", x.weight(0), -1);
            Check.due("the number", x.weight(12), -1);
        }
        CarryHouse y = Check.house(3, MAJORITY);
        Check.due("ahead of it", y.weigh(), 3);
        Check.statute(y, NEVER, 0);
        Check.due("behind another one", y.weigh(), -1);
    }

    private static void latestSum() {
        Check.sentence("Promise 17: The WEIGHT of a MEMBER by the latest weigh() that told a sum (12: the NUMBER)");
        CarryHouse x = Check.house(7, "carry 2 of [3*a b c];");
        Check.due("a sum", x.weigh(), 4);
        weights(x, 2, 2, 1, 1, 0, 0, 0, 0);
        Check.statute(x, GIVEN_UP, 0);
        weights(x, 2, 2, 1, 1, 0, 0, 0, 0);
        Check.due("given up", x.weigh(), -2);
        weights(x, 2, 2, 1, 1, 0, 0, 0, 0);
        Check.statute(x, "carry a and b or c and d;", 0);
        Check.due("not lined", x.weigh(), -1);
        weights(x, 2, 2, 1, 1, 0, 0, 0, 0);
        Check.statute(x, NEVER, 0);
        Check.due("four of three", x.weigh(), -1);
        weights(x, 2, 2, 1, 1, 0, 0, 0, 0);
        Check.statute(x, "carry 3 of [e f g];", 1);
        Check.due("not yet in force", x.weigh(), -1);
        x.next(1);
        weights(x, 2, 2, 1, 1, 0, 0, 0, 0);
        Check.due("another sum", x.weigh(), 3);
        weights(x, 3, 0, 0, 0, 0, 1, 1, 1);
    }

    private static void noSuchWeight() {
        Check.sentence("Promise 17: NONE: no such one, or ahead of any");
        for (int n = 1; n <= 12; n++) {
            CarryHouse x = new CarryHouse();
            x.members(n);
            for (int m = 0; m <= 12; m++) {
                Check.due("ahead of any", x.weight(m), -1);
            }
            Check.due("sum", x.weigh(), n);
            for (int m = -2; m <= 14; m++) {
                int due = m >= 0 && m < n ? 1 : m == 12 ? n : -1;
                Check.due("weight(" + m + ") of " + n, x.weight(m), due);
            }
            for (int far : FAR) {
                Check.due("weight(" + far + ")", x.weight(far), -1);
            }
        }
        CarryHouse few = new CarryHouse();
        few.members(5);
        few.weigh();
        few.members(3);
        Check.due("not there now", few.weight(3), -1);
        few.weigh();
        few.members(5);
        Check.due("there then", few.weight(2), 1);
        Check.due("not there then", few.weight(3), -1);
        CarryHouse y = Check.house(4, "carry a and b or c and d;");
        y.weigh();
        Check.due("ahead of any sum", y.weight(0), -1);
        Check.due("ahead of any sum, the number", y.weight(12), -1);
    }
}
