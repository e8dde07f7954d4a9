import java.util.NoSuchElementException;

/**
 * The edges of the tape, of days, members and statutes in force, a test for each sentence that names one (promises
 * 1 to 5, 8, 29); what a call that throws or is refused leaves as it was; and runs of 512 calls.
 */
public final class EdgeStateTests {
    private static final int[] FAR = {Integer.MIN_VALUE, Integer.MIN_VALUE + 1, Integer.MAX_VALUE - 1, Integer.MAX_VALUE};

    public static void main(String[] args) {
        newObject();
        newObjectsAreApart();
        highestFirst();
        behindTheTape();
        noMoreThan640();
        firstBytesAlone();
        notSoMany();
        endBelowZero();
        nextDays();
        anotherNumberOfDays();
        notBehind999();
        howManyMembers();
        notSuchMembers();
        tooLateForMembers();
        notTooLate();
        setsAreBits();
        latestNotBehind();
        toldLastOfLikeOnes();
        aheadOfAll();
        askedOfToday();
        noSuchSetOrDay();
        counts();
        refusedChangesNothing();
        throwingChangesNothing();
        askingChangesNothing();
        fullHouseOf512();
        dearCalls();
        Check.finish("EdgeStateTests");
    }

    private static void newObject() {
        Check.sentence("Promise 1: Three MEMBERS, no STATUTES, VOTES; TODAY 0; an empty tape");
        CarryHouse x = new CarryHouse();
        Check.due("TODAY", x.count(0), 0);
        Check.due("MEMBERS", x.count(1), 3);
        Check.due("STATUTES", x.count(2), 0);
        Check.due("VOTES", x.count(3), 0);
        Check.due("bytes", x.count(4), 0);
        Check.due("a fourth member", x.turns(3), -1);
        Check.due("the third", x.turns(2), 1);
        Check.due("all must be in", x.many(0), 1);
        Check.due("the first vote is 0", x.vote(7, true), 0);
        Check.due("an empty tape is no row", x.leads(false), -1);
        Check.due("nor an order", x.rank(0), false);
        Check.due("nor a statute", x.statute(0), -1);
    }

    private static void newObjectsAreApart() {
        Check.sentence("Promise 1: a new object, whatever befell another one");
        CarryHouse used = new CarryHouse();
        String first = Look.at(new CarryHouse());
        fill(used);
        used.feed(1, 2, 3, 4, 5);
        Check.due("as the first one", Look.at(new CarryHouse()).equals(first), true);
    }

    private static void highestFirst() {
        Check.sentence("Promise 2: Twenty bytes come behind the tape, of each number the highest first");
        CarryHouse x = new CarryHouse();
        // "carry" and blanks, with one member's letter in each byte in turn: its place is that of no such member
        for (int place = 5; place < 20; place++) {
            StringBuilder text = new StringBuilder("carry" + " ".repeat(15));
            text.setCharAt(place, 'd');
            int[] numbers = new int[5];
            for (int k = 0; k < 20; k++) {
                numbers[k / 4] |= text.charAt(k) << 24 - 8 * (k % 4);
            }
            Check.due("20 bytes", x.feed(numbers[0], numbers[1], numbers[2], numbers[3], numbers[4]), 20);
            // a letter right behind "carry" belongs to that word
            Check.due("a letter in byte " + place, x.statute(0), place == 5 ? -1 : -1 - place);
        }
        x.feed(0x80000000, 0, 0, 0, 0);
        x.end(1);
        Check.due("byte 128 is no option", x.leads(false), -1);
        x.feed(0x06FFFFFF, -1, -1, -1, -1);
        x.end(1);
        Check.due("byte 6 is one", x.leads(false), 6);
    }

    private static void behindTheTape() {
        Check.sentence("Promise 2: behind the tape: how many it has");
        CarryHouse x = new CarryHouse();
        x.feed(0x05040302, 0x01000606, 0, 0, 0);
        x.end(3);
        Check.due("3 and 20", x.feed(0x02010006, 0x06060606, 0, 0, 0), 23);
        x.end(7);
        Check.due("5 4 3 2 1 0 6", x.rank(0), true);
        Check.due("20 anew", x.feed(0, 0, 0, 0, 0), 20);
        Check.due("40", x.feed(0, 0, 0, 0, 0), 40);
        x.end(39);
        Check.due("59", x.feed(0, 0, 0, 0, 0), 59);
    }

    private static void noMoreThan640() {
        Check.sentence("Promise 2: NONE, and none come, if it would have more than 640");
        for (int left = 600; left <= 640; left += 1) {
            CarryHouse x = new CarryHouse();
            for (int i = 1; i <= 32; i++) {
                Check.due("feed " + i, x.feed(0x20202020, 0x20202020, 0x20202020, 0x20202020, 0x20202020), 20 * i);
            }
            x.end(left);
            int due = left <= 620 ? left + 20 : -1;
            Check.due("feed behind " + left, x.feed(0, 0, 0, 0, 0), due);
            Check.due("how many then", x.count(4), due == -1 ? left : due);
        }
        CarryHouse y = new CarryHouse();
        Check.tape(y, "carry b;" + " ".repeat(592));
        for (int i = 0; i < 3; i++) {
            y.feed(0x20202020, 0x20202020, 0x20202020, 0x20202020, 0x20202020);
        }
        y.end(620);
        y.feed(0x20202020, 0x20202020, 0x20202020, 0x20202020, 0x20202020);
        Check.due("none come", y.feed(0, 0, 0, 0, 0), -1);
        y.end(600);
        Check.due("what was there is as it was", y.statute(0), 0);
    }

    private static void firstBytesAlone() {
        Check.sentence("Promise 3: The tape has its first n bytes alone: true");
        CarryHouse x = new CarryHouse();
        Check.due("none of none", x.end(0), true);
        Check.tape(x, "carry a;carry");
        Check.due("8 of 13", x.end(8), true);
        Check.due("8 bytes", x.count(4), 8);
        Check.due("all 8", x.end(8), true);
        Check.due("they are a statute", x.statute(0), 0);
        Check.tape(x, "carry a;");
        Check.due("none of 8", x.end(0), true);
        Check.due("no bytes", x.count(4), 0);
        Check.due("nothing is left", x.statute(0), -1);
    }

    private static void notSoMany() {
        Check.sentence("Promise 3: false, if it has not so many");
        CarryHouse x = new CarryHouse();
        Check.due("1 of none", x.end(1), false);
        x.feed(0, 0, 0, 0, 0);
        Check.due("21 of 20", x.end(21), false);
        Check.due("640 of 20", x.end(640), false);
        Check.due("most", x.end(Integer.MAX_VALUE), false);
        Check.due("20 still", x.count(4), 20);
        x.end(5);
        Check.due("6 of 5, though there were 20", x.end(6), false);
        Check.due("5 still", x.count(4), 5);
    }

    private static void endBelowZero() {
        Check.sentence("Promise 3: false, if .. n is below 0");
        CarryHouse x = new CarryHouse();
        Check.due("-1 of none", x.end(-1), false);
        x.feed(0, 0, 0, 0, 0);
        Check.due("-1", x.end(-1), false);
        Check.due("the least", x.end(Integer.MIN_VALUE), false);
        Check.due("20 still", x.count(4), 20);
    }

    private static void nextDays() {
        Check.sentence("Promise 4: TODAY goes on by n days (0 to 999): TODAY");
        CarryHouse x = new CarryHouse();
        Check.due("by 0", x.next(0), 0);
        Check.due("by 1", x.next(1), 1);
        Check.due("by 0 again", x.next(0), 1);
        Check.due("TODAY", x.count(0), 1);
        Check.due("by 999 at once", new CarryHouse().next(999), 999);
    }

    private static void anotherNumberOfDays() {
        Check.sentence("Promise 4: NONE: another n");
        CarryHouse x = new CarryHouse();
        x.next(5);
        int[] wrong = {-1, -5, 1000, Integer.MIN_VALUE, Integer.MAX_VALUE};
        for (int n : wrong) {
            Check.due("by " + n, x.next(n), -1);
            Check.due("5 still", x.count(0), 5);
        }
        Check.due("by 1000 on day 0", new CarryHouse().next(1000), -1);
    }

    private static void notBehind999() {
        Check.sentence("Promise 4: NONE: .. it would be behind 999; 999 the last one");
        CarryHouse x = new CarryHouse();
        x.next(1);
        Check.due("1 and 999", x.next(999), -1);
        Check.due("1 still", x.count(0), 1);
        Check.due("1 and 998", x.next(998), 999);
        Check.due("one more", x.next(1), -1);
        Check.due("none more", x.next(0), 999);
        Check.due("999 still", x.count(0), 999);
        Check.due("a vote on it", x.vote(0, false), 0);
        Check.due("a statute on it", Check.statute(x, "carry a;", 999), 0);
    }

    private static void howManyMembers() {
        Check.sentence("MEMBERS are n letters a, b, .. (n 1 to 12; 3 at first); Promise 5: true");
        for (int n = 1; n <= 12; n++) {
            CarryHouse x = new CarryHouse();
            Check.due("members(" + n + ")", x.members(n), true);
            Check.due("how many", x.count(1), n);
            Check.due("all of them", x.carries((1 << n) - 1, 0), 1);
            Check.due("no more", x.carries(1 << n, 0), -1);
            Check.due("the last one", x.turns(n - 1), 1);
            Check.due("none behind it", x.turns(n), -1);
        }
        CarryHouse y = new CarryHouse();
        for (int n = 12; n >= 1; n--) {
            Check.due("fewer", y.members(n), true);
            Check.due("more", y.members(12), true);
        }
        Check.due("as many", y.members(12), true);
    }

    private static void notSuchMembers() {
        Check.sentence("Promise 5: false: not as told");
        CarryHouse x = new CarryHouse();
        int[] wrong = {0, -1, 13, 35, Integer.MIN_VALUE, Integer.MAX_VALUE};
        for (int n : wrong) {
            Check.due("members(" + n + ")", x.members(n), false);
            Check.due("three still", x.count(1), 3);
        }
        Check.due("all three", x.setAt(1, 0), 7);
    }

    private static void tooLateForMembers() {
        Check.sentence("Promise 5: false: .. too late; MEMBERS are told while there are no STATUTES, VOTES, nor orders");
        CarryHouse statute = new CarryHouse();
        Check.statute(statute, "carry a;", 999);
        CarryHouse vote = new CarryHouse();
        vote.vote(0, false);
        CarryHouse order = new CarryHouse();
        Check.rank(order, 1, 1, 0, 2, 3, 4, 5, 6);
        CarryHouse[] late = {statute, vote, order};
        for (CarryHouse x : late) {
            Check.due("other ones", x.members(4), false);
            Check.due("as many", x.members(3), false);
            Check.due("not as told either", x.members(0), false);
            Check.due("three still", x.count(1), 3);
            x.next(999);
            Check.due("later too", x.members(4), false);
        }
    }

    private static void notTooLate() {
        Check.sentence("Promise 5: .. too late: not by what was refused, asked, fed or by days that went on");
        CarryHouse x = new CarryHouse();
        Check.statute(x, "carry d;", 0);
        Check.statute(x, "carry a;", -1);
        Check.rank(x, 3, 0, 1, 2, 3, 4, 5, 6);
        Check.rank(x, 0, 0, 1, 2, 3, 4, 5);
        x.vote(8, true);
        x.vote(-1, true);
        x.next(7);
        x.weigh();
        x.rows(0);
        Check.leads(x, true, 0, 1);
        x.feed(0, 0, 0, 0, 0);
        Check.due("in time", x.members(4), true);
        Check.due("the tape stays", x.count(4), 20);
        Check.due("TODAY stays", x.count(0), 7);
    }

    private static void setsAreBits() {
        Check.sentence("SETS of them are bits (a the lowest one)");
        for (int m = 0; m < 12; m++) {
            CarryHouse x = Check.house(12, "carry " + (char) ('a' + m) + ";");
            Check.due("the one", x.carries(1 << m, 0), 1);
            Check.due("all others", x.carries(4095 & ~(1 << m), 0), 0);
            Check.due("the least set", x.setAt(1, 0), 1 << m);
        }
    }

    private static void latestNotBehind() {
        Check.sentence("on a day the one with the latest such day not behind it");
        CarryHouse x = new CarryHouse();
        Check.statute(x, "carry c;", 999);
        Check.statute(x, "carry a;", 1);
        Check.statute(x, "carry b;", 500);
        Check.due("day 1", x.carries(1, 1), 1);
        Check.due("day 499", x.carries(1, 499), 1);
        Check.due("day 500", x.carries(1, 500), 0);
        Check.due("day 500, b", x.carries(2, 500), 1);
        Check.due("day 998, b", x.carries(2, 998), 1);
        Check.due("day 999, not b", x.carries(2, 999), 0);
        Check.due("day 999, c", x.carries(4, 999), 1);
    }

    private static void toldLastOfLikeOnes() {
        Check.sentence("of like ones the one told last");
        CarryHouse x = new CarryHouse();
        String[] members = {"a", "b", "c"};
        for (int i = 0; i < 6; i++) {
            Check.statute(x, "carry " + members[i % 3] + ";", i < 3 ? 0 : 4);
            Check.due("at once, on day 4", x.carries(1 << i % 3, 4), 1);
            Check.due("alone", x.carries(7 & ~(1 << i % 3), 4), 0);
        }
        Check.statute(x, "carry a;", 0);
        Check.due("a later day is before one told last", x.carries(4, 4), 1);
        Check.due("but on day 3", x.carries(1, 3), 1);
    }

    private static void aheadOfAll() {
        Check.sentence("ahead of all: all MEMBERS must be in");
        CarryHouse x = new CarryHouse();
        x.members(4);
        Check.due("without any", x.carries(15, 999), 1);
        Check.due("without any, but one", x.carries(14, 999), 0);
        Check.statute(x, "carry a;", 10);
        Check.due("day 9", x.carries(15, 9), 1);
        Check.due("day 9, but one", x.carries(7, 9), 0);
        Check.due("day 10", x.carries(1, 10), 1);
        Check.due("today", x.many(0), 1);
    }

    private static void askedOfToday() {
        Check.sentence("What is asked below is asked of the one in force TODAY, but where a day is told");
        CarryHouse x = new CarryHouse();
        Check.statute(x, "carry b;", 2);
        Check.rank(x, 1, 6, 5, 4, 3, 2, 1, 0);
        String first = Look.at(x);
        Check.due("rows on day 0", x.rows(0), 720);
        x.next(1);
        Check.due("rows on day 1", x.rows(0), 720);
        Check.due("weigh on day 1", x.weigh(), 3);
        x.next(1);
        Check.due("many", x.many(0), 4);
        Check.due("setAt", x.setAt(1, 0), 2);
        Check.due("stronger", x.stronger(1, 0), 1);
        Check.due("turns", x.turns(1), 4);
        Check.due("share", x.share(1, 1, 1), 1);
        Check.due("chance", x.chance(5), 500);
        Check.due("ally", x.ally(2), 0);
        Check.due("weigh", x.weigh(), 1);
        Check.due("beats", x.beats(6, 0), 1);
        Check.due("free", x.free(), 64);
        Check.due("top", x.top(), 64);
        Check.due("leads", Check.leads(x, false, 0, 1, 2), 2);
        Check.due("foreseen", Check.leads(x, true, 0, 1, 2), 2);
        Check.due("rows", x.rows(6), 5040);
        Check.due("another look", Look.at(x).equals(first), false);
    }

    private static void noSuchSetOrDay() {
        Check.sentence("Promise 8: NONE: no such SET, day (0 to 999)");
        for (int n = 1; n <= 12; n++) {
            CarryHouse x = new CarryHouse();
            x.members(n);
            Check.due("the empty one", x.carries(0, 0), 0);
            Check.due("the last one", x.carries((1 << n) - 1, 999), 1);
            Check.due("behind it", x.carries(1 << n, 0), -1);
            Check.due("below", x.carries(-1, 0), -1);
            Check.due("day -1", x.carries(0, -1), -1);
            Check.due("day 1000", x.carries(0, 1000), -1);
            for (int far : FAR) {
                Check.due("set " + far, x.carries(far, 0), -1);
                Check.due("day " + far, x.carries(0, far), -1);
            }
        }
    }

    private static void counts() {
        Check.sentence("Promise 29: NONE for another what");
        CarryHouse x = new CarryHouse();
        int[] wrong = {-1, 5, 6, Integer.MIN_VALUE, Integer.MAX_VALUE};
        for (int what : wrong) {
            Check.due("count(" + what + ")", x.count(what), -1);
        }
        fill(x);
        x.feed(0, 0, 0, 0, 0);
        int[] due = {3, 4, 2, 3, 20};
        for (int what = 0; what < 5; what++) {
            Check.due("count(" + what + ")", x.count(what), due[what]);
        }
        for (int what : wrong) {
            Check.due("count(" + what + ")", x.count(what), -1);
        }
    }

    /** Four members, two statutes, orders, votes on two days, weights and a row: a house with something in each part. */
    private static void fill(CarryHouse x) {
        x.members(4);
        Check.statute(x, "carry 3 of [2*a b c d];", 0);
        Check.statute(x, "carry a and b or c and d;", 3);
        Check.rank(x, 1, 6, 5, 4, 3, 2, 1, 0);
        Check.rank(x, 2, 3, 2, 1, 0, 6, 5, 4);
        x.weigh();
        x.rows(3);
        x.vote(3, true);
        x.vote(14, false);
        x.next(3);
        x.vote(12, true);
        Check.statute(x, "carry e;", 3);
    }

    private static CarryHouse filled() {
        CarryHouse x = new CarryHouse();
        fill(x);
        x.feed(0x63617272, 0x79206120, 0x6F722062, 0x3B202020, 0x20202020);
        return x;
    }

    private static int refuse(CarryHouse x, int k) {
        switch (k) {
            case 0: return x.end(21) ? 0 : -1;
            case 1: return x.end(-1) ? 0 : -1;
            case 2: return x.next(997);
            case 3: return x.next(-1);
            case 4: return x.members(5) ? 0 : -1;
            case 5: return x.members(13) ? 0 : -1;
            case 6: return x.vote(16, true);
            case 7: return x.vote(-1, false);
            case 8: return x.rows(7);
            case 9: return x.rows(-1);
            case 10: return x.carries(16, 3);
            case 11: return x.many(8);
            case 12: return x.setAt(1, 99);
            case 13: return x.stronger(0, 4) + 1;
            case 14: return x.turns(4);
            case 15: return (int) x.chance(11);
            case 16: return x.ally(4);
            case 17: return x.weigh();
            case 18: return x.weight(4);
            case 19: return x.beats(3, 3);
            case 20: return x.rowAt(7);
            case 21: return x.sure(16, 3);
            default: return x.count(5);
        }
    }

    private static void refusedChangesNothing() {
        Check.sentence("a call that is refused changes nothing");
        String due = Look.at(filled());
        int read = filled().statute(3);
        for (int k = 0; k <= 22; k++) {
            CarryHouse x = filled();
            Check.due("refused call " + k, refuse(x, k), -1);
            Check.due("as it was behind call " + k, Look.at(x).equals(due), true);
            Check.due("the tape too", x.statute(3), read);
        }
        tapeAlone("a statute on no such day", due, 0);
        tapeAlone("an order of nobody", due, 1);
        tapeAlone("no order", due, 2);
        tapeAlone("no row", due, 3);
    }

    /** Calls that take the tape empty it, and change nothing else where they are refused. */
    private static void tapeAlone(String what, String due, int k) {
        CarryHouse x = filled();
        if (k == 0) {
            Check.due(what, x.statute(2), -1000);
        } else if (k == 3) {
            Check.due(what, x.leads(true), -1);
        } else {
            Check.due(what, x.rank(k == 1 ? 4 : 0), false);
        }
        Check.due(what + ": emptied", x.count(4), 0);
        x.feed(0, 0, 0, 0, 0);
        Check.due(what + ": else as it was", Look.at(x).equals(due), true);
    }

    private static boolean throwsSo(CarryHouse x, int m, int way, int what) {
        try {
            x.share(m, way, what);
        } catch (NoSuchElementException e) {
            return true;
        }
        return false;
    }

    private static void throwingChangesNothing() {
        Check.sentence("A call that throws changes nothing");
        String due = Look.at(filled());
        int read = filled().statute(3);
        int[][] calls = {{-1, 0, 0}, {4, 0, 0}, {0, -1, 0}, {0, 3, 1}, {0, 0, -1}, {0, 2, 2}, {12, 3, 2}};
        for (int[] call : calls) {
            CarryHouse x = filled();
            Check.due("it throws", throwsSo(x, call[0], call[1], call[2]), true);
            Check.due("as it was", Look.at(x).equals(due), true);
            Check.due("the tape too", x.statute(3), read);
        }
        CarryHouse first = new CarryHouse();
        Check.due("it throws at first", throwsSo(first, 3, 0, 0), true);
        Check.due("as a new one", Look.at(first).equals(Look.at(new CarryHouse())), true);
        Check.due("and members can still be told", first.members(4), true);
    }

    private static void askingChangesNothing() {
        Check.sentence("what only asks changes nothing");
        CarryHouse x = filled();
        String due = Look.at(x);
        Check.due("a second look", Look.at(x).equals(due), true);
        Check.due("the tape", x.statute(3), 0);
    }

    /** Every limit in one run: 12 members, 8 statutes of 600 bytes, 60 votes, 512 calls. */
    private static void fullHouseOf512() {
        Check.sentence("An object is used for at most 512 calls after it has been made");
        CarryHouse x = new CarryHouse();
        int calls = 1;
        Check.due("members", x.members(12), true);
        for (int i = 0; i < 8; i++) {
            String text = "body aa:" + i + "1 of [" + "30*a 30*b 30*c (d and e) ".repeat(15) + "];";
            text = text + " ".repeat(580 - text.length()) + "carry aa and " + (char) ('a' + i) + " or l;";
            text = text + " ".repeat(600 - text.length());
            for (int k = 0; k < 600; k += 20) {
                int[] n = new int[5];
                for (int b = 0; b < 20; b++) {
                    n[b / 4] = n[b / 4] << 8 | text.charAt(k + b);
                }
                Check.due("feed", x.feed(n[0], n[1], n[2], n[3], n[4]), k + 20);
                calls++;
            }
            Check.due("statute " + i, x.statute(i), 1);
            calls++;
        }
        for (int i = 0; i < 60; i++) {
            Check.due("vote", x.vote(2048 + i, true), i);
            calls++;
        }
        calls += ask(x, 512 - calls - 3);
        Check.due("call 510", x.count(3), 60);
        Check.due("call 511", x.next(7), 7);
        Check.due("call 512", x.setAt(1, 0), 2048);
        Check.due("512 calls", calls + 3, 512);
    }

    /** So many calls that ask; of the first statute a and l each carry alone. */
    private static int ask(CarryHouse x, int calls) {
        int[] turns = {1024, 0, 0, 0, 0, 0, 0, 0, 0, 0, 0, 1024};
        for (int i = 0; i < calls; i++) {
            if (i % 2 == 0) {
                Check.due("many(1)", x.many(1), 2);
            } else {
                Check.due("turns", x.turns(i % 12), turns[i % 12]);
            }
        }
        return calls;
    }

    /** The dearest calls, over and over, with another statute in force half way. */
    private static void dearCalls() {
        Check.sentence("An object is used for at most 512 calls: the dearest ones too");
        CarryHouse x = new CarryHouse();
        x.members(11);
        Check.statute(x, "carry 27 of [1*a 10*b 2*c 8*d 2*e 2*f 4*g 9*h 1*i 2*j 11*k];", 0);
        Check.statute(x, "carry 6 of [a b c d e f g h i j k];", 100);
        for (int i = 0; i < 100; i++) {
            Check.due("weigh " + i, x.weigh(), i < 50 ? -2 : 11);
            Check.due("open " + i, x.open(i), 2048);
            Check.due("rows " + i, x.rows(0), 5040);
            Check.due("day " + i, x.next(2), 2 * i + 2);
        }
        Check.due("the last sum's number", x.weight(11 + 1), 6);
    }
}
