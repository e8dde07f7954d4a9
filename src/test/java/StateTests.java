/** Promises 1 to 8, 29: the new object, the tape, days, members, statutes and their faults. */
public final class StateTests {
    private static final String A120 = "a ".repeat(119);

    public static void main(String[] args) {
        newObject();
        feed();
        end();
        next();
        members();
        statuteAnswers();
        statuteEmptiesTape();
        eightStatutes();
        faultKept();
        tokens();
        grammar();
        numbersAndMembers();
        numberOfAnItem();
        names();
        tooMany();
        leastFaultOfOneToken();
        longTexts();
        meaning();
        inForce();
        carries();
        count();
        Check.finish("StateTests");
    }

    private static void newObject() {
        CarryHouse x = new CarryHouse();
        int[] counts = {0, 3, 0, 0, 0};
        for (int i = 0; i < counts.length; i++) {
            Check.due("1: count(" + i + ")", x.count(i), counts[i]);
        }
        Check.due("1: fault()", x.fault(), 0);
        Check.due("1: weight(0)", x.weight(0), -1);
        Check.due("1: weight(12)", x.weight(12), -1);
        Check.due("1: rowAt(0)", x.rowAt(0), -1);
        Check.due("1: unfit(999)", x.unfit(999), -1);
        for (int set = 0; set < 8; set++) {
            Check.due("1: carries(" + set + ", 0)", x.carries(set, 0), set == 7 ? 1 : 0);
        }
        Check.due("1: NONE", CarryHouse.NONE, -1);
    }

    private static void feed() {
        CarryHouse x = new CarryHouse();
        for (int i = 1; i <= 32; i++) {
            Check.due("2: feed " + i, x.feed(i, i, i, i, i), 20 * i);
        }
        Check.due("2: feed past 640", x.feed(1, 2, 3, 4, 5), -1);
        Check.due("2: none came", x.count(4), 640);
        x.end(621);
        Check.due("2: feed at 621", x.feed(1, 2, 3, 4, 5), -1);
        Check.due("2: still 621", x.count(4), 621);
        x.end(620);
        Check.due("2: feed at 620", x.feed(1, 2, 3, 4, 5), 640);
        x.end(0);
        x.feed(0x06050403, 0x02010099, 0, 0, 0);
        x.end(7);
        Check.due("2: bytes, the highest first", x.rank(0), true);
        Check.statute(x, "carry a;", 0);
        Check.due("2: 6 is first", x.beats(6, 5), 1);
        Check.due("2: 0 is last", x.beats(0, 1), 0);
        CarryHouse y = new CarryHouse();
        y.feed(0x63617272, 0x79206120, 0x20202020, 0x20202020, 0x20202020);
        y.feed(0x3B202020, 0x20202020, 0x20202020, 0x20202020, 0x2020203B);
        Check.due("2: every number's bytes in their places", y.statute(0), -1 - 39);
    }

    private static void end() {
        CarryHouse x = new CarryHouse();
        Check.due("3: end(0) of an empty tape", x.end(0), true);
        Check.due("3: end(1) of an empty tape", x.end(1), false);
        x.feed(0, 0, 0, 0, 0);
        Check.due("3: end(21)", x.end(21), false);
        Check.due("3: end(-1)", x.end(-1), false);
        Check.due("3: end(min)", x.end(Integer.MIN_VALUE), false);
        Check.due("3: unchanged", x.count(4), 20);
        Check.due("3: end(20)", x.end(20), true);
        Check.due("3: end(7)", x.end(7), true);
        Check.due("3: 7 are left", x.count(4), 7);
        Check.due("3: end(8) then", x.end(8), false);
        Check.due("3: 27 then", x.feed(0, 0, 0, 0, 0), 27);
    }

    private static void next() {
        CarryHouse x = new CarryHouse();
        Check.due("4: next(0)", x.next(0), 0);
        Check.due("4: next(-1)", x.next(-1), -1);
        Check.due("4: next(1000)", x.next(1000), -1);
        Check.due("4: next(max)", x.next(Integer.MAX_VALUE), -1);
        Check.due("4: next(3)", x.next(3), 3);
        Check.due("4: next(997)", x.next(997), -1);
        Check.due("4: still 3", x.count(0), 3);
        Check.due("4: next(996)", x.next(996), 999);
        Check.due("4: next(1) at the end", x.next(1), -1);
        Check.due("4: next(0) at the end", x.next(0), 999);
        Check.due("4: next(999) at first", new CarryHouse().next(999), 999);
    }

    private static void members() {
        CarryHouse x = new CarryHouse();
        int[] wrong = {0, -1, 13, Integer.MIN_VALUE, Integer.MAX_VALUE};
        for (int n : wrong) {
            Check.due("5: members(" + n + ")", x.members(n), false);
        }
        Check.due("5: still 3", x.count(1), 3);
        Check.due("5: members(12)", x.members(12), true);
        Check.due("5: carries(4095)", x.carries(4095, 0), 1);
        Check.due("5: carries(7)", x.carries(7, 0), 0);
        Check.due("5: members(1)", x.members(1), true);
        Check.due("5: carries(1)", x.carries(1, 0), 1);
        Check.due("5: carries(2)", x.carries(2, 0), -1);
        Check.statute(x, "carry b;", 0);
        Check.rank(x, 1, 0, 1, 2, 3, 4, 5, 6);
        x.vote(2, true);
        Check.due("5: not late by what was refused", x.members(2), true);
        Check.statute(x, "carry b;", 7);
        Check.due("5: late by a statute, though a later one", x.members(2), false);
        CarryHouse y = new CarryHouse();
        y.vote(0, false);
        Check.due("5: late by a vote", y.members(4), false);
        CarryHouse z = new CarryHouse();
        Check.rank(z, 2, 0, 1, 2, 3, 4, 5, 6);
        Check.due("5: late by an order, though the first one again", z.members(4), false);
        Check.due("5: three still", z.count(1), 3);
    }

    private static void statuteAnswers() {
        CarryHouse x = new CarryHouse();
        Check.due("6: no names", Check.statute(x, "carry a;", 0), 0);
        Check.due("6: two names", Check.statute(x, "body aa:a;body bb:aa or b;carry bb;", 0), 2);
        Check.due("6: day -1", Check.statute(x, "carry a;", -1), -1000);
        Check.due("6: day 1000", Check.statute(x, "carry a;", 1000), -1000);
        Check.due("6: day 999", Check.statute(x, "carry a;", 999), 0);
        x.next(5);
        Check.due("6: yesterday", Check.statute(x, "carry a;", 4), -1000);
        Check.due("6: today", Check.statute(x, "carry a;", 5), 0);
        Check.due("6: how many", x.count(2), 4);
        Check.due("6: a fault", Check.statute(x, "carry d;", 5), -7);
        Check.due("6: none is told", x.count(2), 4);
    }

    private static void statuteEmptiesTape() {
        CarryHouse x = new CarryHouse();
        Check.statute(x, "carry a;", 0);
        Check.due("6: empty behind a good one", x.count(4), 0);
        Check.statute(x, "carry", 0);
        Check.due("6: empty behind a fault", x.count(4), 0);
        Check.statute(x, "carry a;", -5);
        Check.due("6: empty behind -1000", x.count(4), 0);
    }

    private static void eightStatutes() {
        CarryHouse x = new CarryHouse();
        for (int i = 0; i < 8; i++) {
            Check.due("6: statute " + i, Check.statute(x, i == 7 ? "carry b;" : "carry a;", 0), 0);
        }
        Check.due("6: a ninth", Check.statute(x, "carry c;", 0), -1000);
        Check.due("6: eight", x.count(2), 8);
        Check.due("6: the eighth is in force", x.setAt(1, 0), 2);
        Check.statute(x, "carry", 0);
        Check.due("6: a ninth that is faulty", x.fault(), 0);
        Check.due("6: emptied then too", x.count(4), 0);
    }

    private static void faultKept() {
        CarryHouse x = new CarryHouse();
        Check.statute(x, "carry d;", 0);
        Check.due("7: 2", x.fault(), 2);
        Check.statute(x, "carry", -1);
        Check.due("7: 2 still, behind -1000", x.fault(), 2);
        Check.statute(x, "carry aa;", 0);
        Check.due("7: 3", x.fault(), 3);
        Check.statute(x, "carry a;", 0);
        Check.due("7: 0 behind a good one", x.fault(), 0);
    }

    private static void tokens() {
        Check.faulty(3, "", 1, 0);
        Check.faulty(3, "  \n ", 1, 4);
        Check.good(3, "\n carry\na ;\n ", 0);
        Check.faulty(3, "carry\ta;", 1, 5);
        Check.faulty(3, "carry a\r;", 1, 7);
        Check.faulty(3, "carry a" + (char) 0 + ";", 1, 7);
        Check.faulty(3, "carry " + (char) 225 + ";", 1, 6);
        Check.faulty(3, "carry a" + (char) 160 + ";", 1, 7);
        Check.faulty(3, "carry A;", 1, 6);
        Check.faulty(3, "carry a{;", 1, 7);
        Check.faulty(3, "carry a`;", 1, 7);
        Check.faulty(3, "carry a/;", 1, 7);
        Check.faulty(3, "carry a.;", 1, 7);
        Check.faulty(3, "carry a;.", 1, 8);
        Check.faulty(3, "carrya;", 1, 0);
        Check.faulty(3, "carry 1of [a];", 1, 6);
        Check.faulty(3, "carry 1 of1 [a];", 1, 8);
        Check.good(3, "carry 1 of[a]or(b)and c;", 0);
        Check.faulty(3, "carry a1;", 1, 6);
        Check.faulty(3, "carry 1a;", 1, 6);
        Check.good(3, "body abcdefgh:a;carry abcdefgh;", 1);
        Check.faulty(3, "body abcdefghi:a;carry abcdefghi;", 1, 5);
        Check.faulty(3, "body aa:a;carry abcdefghi;", 1, 16);
        Check.good(3, "carry 001 of [a];", 0);
        Check.good(3, "carry 999 of [a];", 0);
        Check.faulty(3, "carry 0001 of [a];", 1, 6);
        Check.faulty(3, "carry 1 of [0000*a];", 1, 12);
        Check.good(3, "carry 1 of [999*a 000*b];", 0);
    }

    private static void grammar() {
        Check.faulty(3, "a;", 1, 0);
        Check.faulty(3, "; carry a;", 1, 0);
        Check.faulty(3, "carry", 1, 5);
        Check.faulty(3, "carry  ", 1, 7);
        Check.faulty(3, "carry;", 1, 5);
        Check.faulty(3, "carry a", 1, 7);
        Check.faulty(3, "carry a; ;", 1, 9);
        Check.faulty(3, "carry a; carry b;", 1, 9);
        Check.faulty(3, "carry a; body aa:a;", 1, 9);
        Check.faulty(3, "carry a b;", 1, 8);
        Check.faulty(3, "carry a and;", 1, 11);
        Check.faulty(3, "carry a or;", 1, 10);
        Check.faulty(3, "carry or a;", 1, 6);
        Check.faulty(3, "carry a and or b;", 1, 12);
        Check.faulty(3, "carry a of b;", 1, 8);
        Check.faulty(3, "carry ();", 1, 7);
        Check.faulty(3, "carry (a;", 1, 8);
        Check.faulty(3, "carry (a];", 1, 8);
        Check.faulty(3, "carry a);", 1, 7);
        Check.faulty(3, "carry [a];", 1, 6);
        Check.faulty(3, "carry 1;", 1, 7);
        Check.faulty(3, "carry 1*a;", 1, 7);
        Check.faulty(3, "carry 1 of (a);", 1, 11);
        Check.faulty(3, "carry 1 of [];", 1, 12);
        Check.faulty(3, "carry 1 of [a;", 1, 13);
        Check.faulty(3, "carry 1 of [a)];", 1, 13);
        Check.faulty(3, "carry 1 of [a and b];", 1, 14);
        Check.faulty(3, "carry 1 of [a or b];", 1, 14);
        Check.good(3, "carry 1 of [(a and b) c];", 0);
        Check.faulty(3, "carry 1 of [2 a];", 1, 14);
        Check.faulty(3, "carry 1 of [2*];", 1, 14);
        Check.faulty(3, "carry 1 of [2*3*a];", 1, 15);
        Check.good(3, "carry 1 of [2*3 of [a b 2*c]];", 0);
        Check.faulty(3, "carry 1 of [*a];", 1, 12);
        Check.faulty(3, "carry 1 of [a*2];", 1, 13);
        Check.faulty(3, "body", 1, 4);
        Check.faulty(3, "body aa", 1, 7);
        Check.faulty(3, "body aa:", 1, 8);
        Check.faulty(3, "body aa:;", 1, 8);
        Check.faulty(3, "body aa a;", 1, 8);
        Check.faulty(3, "body aa:a", 1, 9);
        Check.faulty(3, "body aa:a;", 1, 10);
        Check.faulty(3, "body aa:a; a", 1, 11);
        Check.faulty(3, "body aa:a carry a;", 1, 10);
        Check.faulty(3, "body a:a;carry a;", 1, 5);
        Check.faulty(3, "body 1:a;carry a;", 1, 5);
        String[] kept = {"body", "carry", "and", "or", "of"};
        for (String word : kept) {
            Check.faulty(3, "body " + word + ":a;carry a;", 1, 5);
            Check.faulty(3, "carry " + word + ";", 1, 6);
        }
        Check.good(3, "body ofof:a;body andy:b;body bod:c;carry ofof or andy or bod;", 3);
    }

    private static void numbersAndMembers() {
        Check.faulty(3, "carry d;", 2, 6);
        Check.good(4, "carry d;", 0);
        Check.faulty(12, "carry l or m;", 2, 11);
        Check.faulty(1, "carry a and (b);", 2, 13);
        Check.faulty(3, "carry z;", 2, 6);
        Check.faulty(3, "carry 0 of [a];", 2, 6);
        Check.faulty(3, "carry 000 of [a];", 2, 6);
        Check.faulty(3, "carry 0;", 2, 6);
        Check.faulty(3, "carry 1 of [0 of [a]];", 2, 12);
        Check.faulty(3, "carry 1 of [a 0 of [a]];", 2, 14);
        Check.faulty(3, "carry 1 of [0*0 of [a]];", 2, 14);
        Check.faulty(3, "carry 1 of [d];", 2, 12);
        Check.faulty(3, "carry d $;", 2, 6);
        Check.faulty(3, "carry a d;", 1, 8);
    }

    /** Behind [ or an ITEM a NUMBER may be a WEIGHT or a ONE's: what follows it tells. */
    private static void numberOfAnItem() {
        Check.good(3, "carry 1 of [0*a];", 0);
        Check.faulty(3, "carry 1 of [0 a];", 1, 14);
        Check.faulty(3, "carry 1 of [5 a];", 1, 14);
        Check.faulty(3, "carry 1 of [a 0 b];", 1, 16);
        Check.faulty(3, "carry 1 of [0];", 1, 13);
        Check.faulty(3, "carry 1 of [0 0*a];", 1, 14);
        Check.faulty(3, "carry 1 of [0 0 of [a]];", 1, 14);
        Check.faulty(3, "carry 1 of [0 $];", 1, 14);
        Check.faulty(3, "carry 1 of [0 d];", 1, 14);
        Check.faulty(3, "carry 1 of [0 off];", 1, 14);
        Check.faulty(3, "carry 1 of [0 o f];", 1, 14);
        Check.faulty(3, "carry 1 of [0", 1, 13);
        Check.faulty(3, "carry 1 of [0  ", 1, 15);
        Check.faulty(3, "carry 1 of [0" + " ".repeat(627), 1, 600);
        Check.faulty(3, "carry 1 of [0" + " ".repeat(587) + "of [a]];", 1, 600);
        Check.faulty(3, "carry 1 of [0" + " ".repeat(586) + "of [a]];", 2, 12);
        Check.faulty(3, "carry 1 of [0 of a];", 2, 12);
        Check.faulty(3, "carry 1 of [0 of", 2, 12);
        Check.faulty(3, "carry 1 of [5 of a];", 1, 17);
        Check.faulty(3, "carry 1 of [0*0 a];", 2, 14);
        Check.faulty(3, "carry 1 of [0*5 a];", 1, 16);
        Check.faulty(3, "carry 1 of [0*5*a];", 1, 15);
        Check.faulty(3, "carry 1 of [(0*a)];", 2, 13);
        Check.faulty(3, "carry 1 of [(a and 0*b)];", 2, 19);
        Check.faulty(3, "carry 1 of [" + A120 + "5 a];", 1, 12 + 240);
        Check.faulty(3, "carry 1 of [" + A120 + "0 a];", 1, 12 + 240);
        Check.faulty(3, "carry 1 of [" + A120 + "5", 1, 12 + 239);
        Check.faulty(3, "carry 1 of [" + A120 + "5 of a];", 4, 12 + 238);
        Check.faulty(3, "carry 1 of [" + A120 + "0 of [a]];", 2, 12 + 238);
        Check.faulty(3, "carry 1 of [" + A120 + "5*5 a];", 4, 12 + 240);
        Check.faulty(3, "carry 1 of [" + A120 + "] and 5 a;", 4, 12 + 238 + 6);
    }

    private static void names() {
        Check.faulty(3, "carry aa;", 3, 6);
        Check.faulty(3, "body aa:aa;carry a;", 3, 8);
        Check.faulty(3, "body aa:bb;body bb:a;carry aa;", 3, 8);
        Check.faulty(3, "body aa:a;body aa:b;carry aa;", 3, 15);
        Check.faulty(3, "body aa:a;body ab:b;carry ac;", 3, 26);
        Check.faulty(3, "body aa:a;carry ba;", 3, 16);
        Check.faulty(3, "body aa:a;carry aaa;", 3, 16);
        Check.faulty(3, "body aaa:a;carry aa;", 3, 17);
        Check.good(3, "body aa:a;body aaa:aa;body ab:aaa and aa;carry ab;", 3);
        Check.faulty(3, "carry 1 of [2*aa];", 3, 14);
    }

    private static void tooMany() {
        Check.good(3, "carry 1 of [" + A120 + "];", 0);
        Check.faulty(3, "carry 1 of [" + A120 + "a];", 4, 12 + 238);
        Check.faulty(3, "carry 1 of [" + A120 + "5*a];", 4, 12 + 240);
        Check.faulty(3, "carry 1 of [" + A120 + "(a)];", 4, 12 + 238);
        Check.faulty(3, "carry 1 of [" + A120 + "2 of [a]];", 4, 12 + 238);
        Check.faulty(3, "body aa:1 of [" + A120 + "];carry aa;", 4, 14 + 238 + 8);
        String twelve = "(".repeat(12);
        String closed = ")".repeat(12);
        Check.good(3, "carry " + twelve + "a" + closed + " and " + twelve + "b" + closed + ";", 0);
        Check.faulty(3, "carry (" + twelve + "a)" + closed + ";", 4, 18);
        String nested = "1 of[".repeat(12);
        Check.good(3, "carry " + nested + "a" + "]".repeat(12) + ";", 0);
        Check.faulty(3, "carry " + nested + "1 of [a]" + "]".repeat(12) + ";", 4, 6 + 60 + 5);
        Check.faulty(3, "carry " + nested + "(a)" + "]".repeat(12) + ";", 4, 6 + 60);
        StringBuilder bodies = new StringBuilder();
        for (int i = 0; i < 16; i++) {
            bodies.append("body x").append((char) ('a' + i)).append(":a;");
        }
        Check.good(3, bodies + "carry xp;", 16);
        Check.faulty(3, bodies + "body xq:a;carry xp;", 4, 160 + 5);
    }

    private static void leastFaultOfOneToken() {
        Check.faulty(3, "carry 1 of [" + A120 + "d];", 2, 12 + 238);
        Check.faulty(3, "carry 1 of [" + A120 + "aa];", 3, 12 + 238);
        Check.faulty(3, "carry 1 of [" + A120 + "or];", 1, 12 + 238);
        Check.faulty(3, "carry 1 of [" + A120 + "5*0 of [a]];", 2, 12 + 240);
        StringBuilder bodies = new StringBuilder();
        for (int i = 0; i < 16; i++) {
            bodies.append("body x").append((char) ('a' + i)).append(":a;");
        }
        Check.faulty(3, bodies + "body xc:a;carry xp;", 3, 160 + 5);
        Check.faulty(3, bodies + "body of:a;carry xp;", 1, 160 + 5);
    }

    private static void longTexts() {
        String tail = " ".repeat(592);
        Check.good(3, "carry a;" + tail, 0);
        Check.faulty(3, "carry a;" + tail + " ", 1, 600);
        Check.faulty(3, "carry a;" + tail + " ;", 1, 600);
        Check.faulty(3, "carry a;" + tail.substring(1) + ";", 1, 599);
        Check.faulty(3, "carry a;" + tail.substring(1) + ";" + tail.substring(560), 1, 599);
        Check.faulty(3, tail + "carry a ", 1, 600);
        Check.faulty(3, tail + "     carry a;", 1, 600);
        Check.faulty(3, tail + "    abcdefghi;", 1, 596);
        Check.faulty(3, tail + "  carry abc;", 1, 600);
        Check.faulty(3, tail + " carry abc;", 3, 599);
        Check.faulty(3, "body abc:a;" + " ".repeat(581) + " carry abc;", 1, 600);
        Check.faulty(3, "carry d;" + tail + tail.substring(560), 2, 6);
        Check.faulty(3, " ".repeat(640), 1, 600);
        Check.faulty(3, " ".repeat(600), 1, 600);
    }

    private static void meaning() {
        Check.means(3, "carry a;", "01010101");
        Check.means(3, "carry c;", "00001111");
        Check.means(3, "carry a or b and c;", "01010111");
        Check.means(3, "carry (a or b) and c;", "00000111");
        Check.means(3, "carry a and b or c;", "00011111");
        Check.means(3, "carry a and b and c or a and c;", "00000101");
        Check.means(3, "carry 2 of [a b c];", "00010111");
        Check.means(3, "carry 2 of [2*a b c];", "01010111");
        Check.means(3, "carry 3 of [2*a 0*b c c];", "00000101");
        Check.means(3, "carry 4 of [a b c];", "00000000");
        Check.means(3, "carry 2 of [a a b];", "01010101");
        Check.means(3, "carry 3 of [2*(a or b) 1 of [b c]];", "00110111");
        Check.means(3, "carry 999 of [998*a b];", "00010001");
        Check.means(3, "carry 999 of [998*a 0*b];", "00000000");
        Check.means(3, "body up:2 of [a b c];body low:up and c;carry low or a and b;", "00010111");
        Check.means(3, "body up:a;body low:b;carry up and low;", "00010001");
        Check.means(3, "body up:a or b;body low:up and c;carry 2 of [up 2*low];", "00000111");
        Check.means(2, "carry 2 of [3*1 of [a b]];", "0111");
        Check.means(1, "carry a;", "01");
    }

    private static void inForce() {
        CarryHouse x = new CarryHouse();
        Check.statute(x, "carry a;", 5);
        Check.statute(x, "carry b;", 3);
        Check.due("8: ahead of all", x.carries(7, 2), 1);
        Check.due("8: ahead of all but one", x.carries(3, 2), 0);
        Check.due("8: b from 3 on", x.carries(2, 3), 1);
        Check.due("8: b on 4", x.carries(1, 4), 0);
        Check.due("8: a from 5 on", x.carries(1, 5), 1);
        Check.due("8: a, the later day, not the later told", x.carries(2, 999), 0);
        Check.statute(x, "carry c;", 5);
        Check.due("8: of like days the one told last", x.carries(4, 5), 1);
        Check.due("8: not the one told first", x.carries(1, 5), 0);
        Check.due("8: today, all", x.setAt(1, 0), 7);
        x.next(4);
        Check.due("8: on day 4", x.setAt(1, 0), 2);
        x.next(1);
        Check.due("8: on day 5", x.setAt(1, 0), 4);
        Check.due("8: day 0 is still as it was", x.carries(7, 0), 1);
        Check.statute(x, "carry a and b;", 5);
        Check.due("8: from today on, at once", x.setAt(1, 0), 3);
    }

    private static void carries() {
        CarryHouse x = Check.house(4, "carry d;");
        int[] sets = {-1, 16, Integer.MIN_VALUE, Integer.MAX_VALUE};
        for (int set : sets) {
            Check.due("8: carries(" + set + ", 0)", x.carries(set, 0), -1);
        }
        int[] days = {-1, 1000, Integer.MIN_VALUE, Integer.MAX_VALUE};
        for (int day : days) {
            Check.due("8: carries(8, " + day + ")", x.carries(8, day), -1);
        }
        Check.due("8: carries(15, 999)", x.carries(15, 999), 1);
        Check.due("8: carries(7, 999)", x.carries(7, 999), 0);
        Check.due("8: carries(0, 0)", x.carries(0, 0), 0);
    }

    private static void count() {
        CarryHouse x = new CarryHouse();
        x.members(5);
        x.next(9);
        Check.statute(x, "carry a;", 9);
        Check.statute(x, "carry a;", 10);
        x.vote(1, true);
        x.vote(1, true);
        x.vote(1, false);
        x.feed(0, 0, 0, 0, 0);
        int[] counts = {9, 5, 2, 3, 20};
        for (int i = 0; i < counts.length; i++) {
            Check.due("29: count(" + i + ")", x.count(i), counts[i]);
        }
        int[] wrong = {-1, 5, Integer.MIN_VALUE, Integer.MAX_VALUE};
        for (int what : wrong) {
            Check.due("29: count(" + what + ")", x.count(what), -1);
        }
    }
}
