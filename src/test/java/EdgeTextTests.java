/**
 * The edges of texts, a test for each sentence of 'Terms' that names one: bytes, tokens, names, numbers, ones,
 * what is open at once, and where each fault is told; with promises 6 and 7.
 */
public final class EdgeTextTests {
    private static final int[] FAR = {Integer.MIN_VALUE, Integer.MIN_VALUE + 1, -1000, Integer.MAX_VALUE};
    private static final String[] KEPT = {"body", "carry", "and", "or", "of"};

    public static void main(String[] args) {
        textOf600();
        blanks();
        everyByte();
        lettersOfWords();
        digitsOfNumbers();
        runsOfBoth();
        bodiesAndCarry();
        lettersOfNames();
        keptWords();
        namesToldAhead();
        numberOfOne();
        noEmptyItems();
        weightOfItem();
        quotaReached();
        lastRule();
        firstAlongTheText();
        leastOfOneToken();
        endOfText();
        over600();
        readWhole();
        noSuchMember();
        namesToldTwice();
        ones();
        openAtOnce();
        deepMeaning();
        seventeenNames();
        eachTextAnew();
        howManyNames();
        placeOfFault();
        noneIsTold();
        eightStatutes();
        noSuchDay();
        emptyThen();
        faultOfLatest();
        faultAtFirst();
        Check.finish("EdgeTextTests");
    }

    private static String blank(int n) {
        return " ".repeat(n);
    }

    private static String bodies(int n) {
        StringBuilder text = new StringBuilder();
        for (int i = 0; i < n; i++) {
            text.append("body x").append((char) ('a' + i)).append(":a;");
        }
        return text.toString();
    }

    private static void textOf600() {
        Check.sentence("A STATUTE is a text of at most 600 bytes");
        Check.good(3, "carry a;" + blank(591), 0);
        Check.good(3, "carry a;" + blank(592), 0);
        Check.faulty(3, "carry a;" + blank(593), 1, 600);
        Check.faulty(3, "carry a;" + blank(632), 1, 600);
        Check.good(3, blank(592) + "carry a;", 0);
        Check.faulty(3, blank(593) + "carry a;", 1, 600);
        Check.good(3, "carry" + "\n".repeat(593) + "a;", 0);
        String full = "body abcdefgh:a;carry 9 of[" + "999*abcdefgh ".repeat(43) + "999*abcdefgh];";
        Check.due("a text without a needless blank", full.length(), 600);
        Check.good(3, full, 1);
        Check.faulty(3, full.replace("];", "] ;"), 1, 600);
        Check.faulty(3, full.replace("];", "]) "), 1, 599);
    }

    private static void blanks() {
        Check.sentence("TOKENS, with blanks (32, 10) between them or not");
        Check.good(3, "body aa:1 of[2*a(b)]or c;carry aa;", 1);
        Check.good(3, "body aa : 1 of [ 2 * a ( b ) ] or c ; carry aa ; ".replace(" ", " \n "), 1);
        Check.good(3, "carry\na\nand\nb\n;\n", 0);
        Check.faulty(3, "carrya;", 1, 0);
        Check.faulty(3, "carry a andb;", 1, 8);
    }

    /** What a byte behind a member can be. */
    private static void everyByte() {
        Check.sentence("TOKENS ..; ; : * ( ) [ ].");
        for (int sign = 0; sign < 256; sign++) {
            String text = "carry a" + (char) sign + ";";
            if (sign == 32 || sign == 10) {
                Check.good(3, text, 0);
            } else if (sign >= 'a' && sign <= 'z') {
                Check.faulty(3, text, 3, 6);
            } else if (sign >= '0' && sign <= '9') {
                Check.faulty(3, text, 1, 6);
            } else {
                Check.faulty(3, text, 1, sign == ';' ? 8 : 7);
            }
        }
    }

    private static void lettersOfWords() {
        Check.sentence("WORDS: small letters, 1 to 8");
        Check.good(3, "carry a;", 0);
        Check.good(3, "body abcdefgh:a;carry abcdefgh;", 1);
        Check.faulty(3, "body abcdefghi:a;carry a;", 1, 5);
        Check.faulty(3, "carry abcdefgh;", 3, 6);
        Check.faulty(3, "carry abcdefghi;", 1, 6);
        Check.faulty(3, "carry a and " + "z".repeat(500) + ";", 1, 12);
        Check.faulty(3, "carry aB;", 1, 7);
        Check.faulty(3, "Carry a;", 1, 0);
        Check.good(3, "body az:a;body za:az;carry za;", 2);
    }

    private static void digitsOfNumbers() {
        Check.sentence("NUMBERS: 1 to 3 digits");
        Check.good(3, "carry 1 of [9*a];", 0);
        Check.good(3, "carry 12 of [34*a];", 0);
        Check.good(3, "carry 999 of [999*a];", 0);
        Check.good(3, "carry 001 of [000*a 09*b];", 0);
        Check.faulty(3, "carry 1000 of [a];", 1, 6);
        Check.faulty(3, "carry 0001 of [a];", 1, 6);
        Check.faulty(3, "carry 1 of [1000*a];", 1, 12);
        Check.faulty(3, "carry 1 of [0000*a];", 1, 12);
        Check.faulty(3, "carry 1 of [a " + "1".repeat(500) + "*b];", 1, 14);
        Check.faulty(3, "carry 4294967297 of [a];", 1, 6);
    }

    private static void runsOfBoth() {
        Check.sentence("A WORD, NUMBER goes on as long as small letters and digits do; what is not as told is no TOKEN");
        Check.faulty(3, "carry a1;", 1, 6);
        Check.faulty(3, "carry 1a;", 1, 6);
        Check.faulty(3, "carry 1of [a];", 1, 6);
        Check.faulty(3, "carry 1 of1 [a];", 1, 8);
        Check.faulty(3, "body aa1:a;carry a;", 1, 5);
        Check.faulty(3, "body 1aa:a;carry a;", 1, 5);
        Check.faulty(3, "carry1 a;", 1, 0);
        Check.faulty(3, "body1 aa:a;carry a;", 1, 0);
        Check.faulty(3, "carry 1 of [2a];", 1, 12);
        Check.faulty(3, "carry a and9 b;", 1, 8);
        Check.good(3, "carry 1 of[2*a]and(b)or c;", 0);
    }

    private static void bodiesAndCarry() {
        Check.sentence("TEXT: { 'body' NAME : RULE ; } 'carry' RULE ; .");
        Check.good(3, "carry a;", 0);
        Check.good(3, "body aa:a;carry a;", 1);
        Check.faulty(3, "body aa:a;", 1, 10);
        Check.faulty(3, "carry a;carry b;", 1, 8);
        Check.faulty(3, "carry a;body aa:a;", 1, 8);
        Check.faulty(3, "carry a;;", 1, 8);
        Check.faulty(3, "carry a;$", 1, 8);
        Check.faulty(3, "carry a;1a", 1, 8);
        Check.faulty(3, "carry a; a", 1, 9);
        Check.faulty(3, "body aa:a,carry a;", 1, 9);
        Check.faulty(3, "aa:a;carry a;", 1, 0);
        Check.faulty(3, "body aa a;carry a;", 1, 8);
        Check.faulty(3, "body:a;carry a;", 1, 4);
    }

    private static void lettersOfNames() {
        Check.sentence("NAME: a WORD of two letters at least");
        Check.good(3, "body ab:a;carry ab;", 1);
        Check.faulty(3, "body a:a;carry a;", 1, 5);
        Check.faulty(3, "body z:a;carry a;", 1, 5);
        Check.faulty(3, "carry z;", 2, 6);
        Check.faulty(3, "carry zz;", 3, 6);
    }

    private static void keptWords() {
        Check.sentence("none of body, carry, and, or, of");
        for (String word : KEPT) {
            Check.faulty(3, "body " + word + ":a;carry a;", 1, 5);
            Check.faulty(3, "carry " + word + ";", 1, 6);
            Check.faulty(3, "carry a and " + word + ";", 1, 12);
            Check.faulty(3, "carry 1 of [" + word + "];", 1, 12);
            Check.good(3, "body " + word + "s:a;body x" + word + ":b;carry " + word + "s or x" + word + ";", 2);
        }
    }

    private static void namesToldAhead() {
        Check.sentence("a NAME that was told ahead; 3 a NAME that is .. not told ahead (at it)");
        Check.good(3, "body aa:a;body bb:aa;carry bb and aa;", 2);
        Check.faulty(3, "carry aa;", 3, 6);
        Check.faulty(3, "body aa:aa;carry aa;", 3, 8);
        Check.faulty(3, "body aa:bb;body bb:a;carry aa;", 3, 8);
        Check.faulty(3, "body aa:a;carry a or ab;", 3, 21);
        Check.faulty(3, "body aa:a;carry 1 of [aa 2*aaa];", 3, 27);
        Check.faulty(3, "body aaa:a;carry aa;", 3, 17);
        Check.faulty(3, "body aa:a;carry ba;", 3, 16);
        CarryHouse x = Check.house(3, "body aa:a;carry aa;");
        Check.due("a name of an earlier text", Check.statute(x, "carry aa;", 0), -7);
        Check.due("its kind", x.fault(), 3);
    }

    private static void numberOfOne() {
        Check.sentence("the NUMBER 1 to 999; 2 a NUMBER that is not as told (at it)");
        Check.good(3, "carry 1 of [a];", 0);
        Check.good(3, "carry 999 of [a];", 0);
        Check.faulty(3, "carry 0 of [a];", 2, 6);
        Check.faulty(3, "carry 00 of [a];", 2, 6);
        Check.faulty(3, "carry 000 of [a];", 2, 6);
        Check.faulty(3, "body aa:0 of [a];carry aa;", 2, 8);
        Check.faulty(3, "carry 1 of [0 of [a]];", 2, 12);
        Check.faulty(3, "carry 1 of [7*0 of [a]];", 2, 14);
        Check.faulty(3, "carry a and 0 of [a];", 2, 12);
        Check.faulty(3, "carry (0 of [a]);", 2, 7);
    }

    private static void noEmptyItems() {
        Check.sentence("( RULE ) | NUMBER 'of' [ ITEM { ITEM } ]");
        Check.faulty(3, "carry 1 of (a);", 1, 11);
        Check.faulty(3, "carry 1 of a;", 1, 11);
        Check.faulty(3, "carry [a];", 1, 6);
        Check.faulty(3, "carry (a];", 1, 8);
        Check.faulty(3, "carry 1 of [a);", 1, 13);
        Check.faulty(3, "carry 1 of [a and b];", 1, 14);
        Check.good(3, "carry 1 of [a];", 0);
        Check.faulty(3, "carry 1 of [];", 1, 12);
        Check.faulty(3, "carry 1 of [ ];", 1, 13);
        Check.faulty(3, "carry 1 of [a;", 1, 13);
        Check.faulty(3, "carry 1 of [5*];", 1, 14);
        Check.faulty(3, "carry 1 of [5];", 1, 13);
        Check.faulty(3, "carry 1 of [*a];", 1, 12);
        Check.faulty(3, "carry ();", 1, 7);
        Check.good(3, "carry 119 of [" + "a ".repeat(119) + "];", 0);
    }

    private static void weightOfItem() {
        Check.sentence("its WEIGHT 0 to 999, 1 without it");
        Check.means(2, "carry 1 of [0*a b];", "0011");
        Check.means(2, "carry 1 of [000*a 1*b];", "0011");
        Check.means(2, "carry 999 of [999*a 998*b];", "0101");
        Check.means(2, "carry 2 of [a b];", "0001");
        Check.means(2, "carry 2 of [2*a b];", "0101");
        Check.means(2, "carry 2 of [02*a b];", "0101");
    }

    private static void quotaReached() {
        Check.sentence("NUMBER of: if the WEIGHTS of ITEMS that it carries are NUMBER together at least");
        Check.means(2, "carry 5 of [2*a 3*b];", "0001");
        Check.means(2, "carry 6 of [2*a 3*b];", "0000");
        Check.means(2, "carry 3 of [2*a 3*b];", "0011");
        Check.means(2, "carry 4 of [2*a 2*(a or b) 3*1 of [b]];", "0111");
        Check.means(2, "carry 4 of [a a a b];", "0001");
        Check.means(1, "carry 118 of [" + "a ".repeat(118) + "];", "01");
        Check.means(1, "carry 119 of [" + "a ".repeat(118) + "];", "00");
        Check.means(1, "carry 999 of [" + "999*a ".repeat(95) + "];", "01");
    }

    private static void lastRule() {
        Check.sentence("A SET CARRIES if it carries the last RULE");
        Check.means(2, "body aa:a or b;carry a and b;", "0001");
        Check.means(2, "body aa:a and b;body bb:a;carry aa or b;", "0011");
        Check.means(2, bodies(16) + "carry b and xp;", "0001");
        Check.means(2, "body aa:a;body bb:b;carry aa;", "0101");
    }

    private static void firstAlongTheText() {
        Check.sentence("FAULTS, the first along the text");
        Check.faulty(3, "carry d or aa or $;", 2, 6);
        Check.faulty(3, "carry aa or d or $;", 3, 6);
        Check.faulty(3, "carry $ or d or aa;", 1, 6);
        Check.faulty(3, "carry a or aa or d", 3, 11);
        Check.faulty(3, "carry 0 of [] or d;", 2, 6);
        Check.faulty(3, "body aa:d;body aa:0 of [a];carry", 2, 8);
        Check.faulty(3, "carry d;" + blank(632), 2, 6);
    }

    private static void leastOfOneToken() {
        Check.sentence("of one TOKEN the least");
        String full = "carry 1 of [" + "a ".repeat(119);
        Check.faulty(3, full + "a];", 4, 250);
        Check.faulty(3, full + "aa];", 3, 250);
        Check.faulty(3, full + "d];", 2, 250);
        Check.faulty(3, full + "0 of [a]];", 2, 250);
        Check.faulty(3, full + "or];", 1, 250);
        Check.faulty(3, full + "a1];", 1, 250);
        Check.faulty(3, bodies(16) + "body xz:a;carry a;", 4, 165);
        Check.faulty(3, bodies(16) + "body xa:a;carry a;", 3, 165);
        Check.faulty(3, bodies(16) + "body or:a;carry a;", 1, 165);
        Check.faulty(3, "carry " + "(".repeat(12) + "[", 1, 18);
        Check.faulty(3, "carry " + "(".repeat(12) + "0 of [a]", 2, 18);
    }

    private static void endOfText() {
        Check.sentence("1 .. one that can't come (.. the end: how many bytes there are");
        Check.faulty(3, "", 1, 0);
        Check.faulty(3, " ", 1, 1);
        Check.faulty(3, "\n\n\n", 1, 3);
        String[] begun = {
            "carry", "carry a", "carry a and", "carry a or", "carry (", "carry (a", "carry 5", "carry 5 of", "carry 5 of [",
            "carry 5 of [a", "carry 5 of [7", "carry 5 of [7*", "carry 5 of [7*a", "carry 5 of [7*a]", "body", "body aa",
            "body aa:", "body aa:a", "body aa:a;"
        };
        for (String text : begun) {
            Check.faulty(3, text, 1, text.length());
            Check.faulty(3, text + "\n ", 1, text.length() + 2);
            Check.faulty(3, text + blank(600 - text.length()), 1, 600);
        }
    }

    private static void over600() {
        Check.sentence("600, if there are more and no FAULT is ahead");
        Check.faulty(3, "carry a;" + blank(592) + " ", 1, 600);
        Check.faulty(3, "carry a;" + blank(592) + "$", 1, 600);
        Check.faulty(3, "carry a;" + blank(591) + "$ ", 1, 599);
        Check.faulty(3, blank(640), 1, 600);
        Check.faulty(3, "carry a" + blank(593) + ";", 1, 600);
        Check.faulty(3, "carry" + blank(595) + "d;", 1, 600);
        Check.faulty(3, "carry" + blank(594) + "d;", 2, 599);
        Check.faulty(3, "carry" + blank(595) + "aa;", 1, 600);
        Check.faulty(3, "carry" + blank(594) + "aa;", 3, 599);
        Check.faulty(3, "$" + blank(639), 1, 0);
    }

    private static void readWhole() {
        Check.sentence("TOKENS that begin ahead of it are read whole");
        Check.faulty(3, blank(596) + "carry a;", 1, 600);
        Check.faulty(3, blank(599) + "carry a;", 1, 600);
        Check.faulty(3, blank(596) + "carrz a;", 1, 596);
        Check.faulty(3, "carry" + blank(594) + "a;", 1, 600);
        Check.faulty(3, "carry" + blank(594) + "ab;", 3, 599);
        Check.faulty(3, "carry" + blank(594) + "a1;", 1, 599);
        Check.faulty(3, "carry" + blank(594) + "abcdefgh;", 3, 599);
        Check.faulty(3, "carry" + blank(594) + "abcdefghi;", 1, 599);
        Check.faulty(3, "carry" + blank(594) + "a".repeat(41), 1, 599);
        Check.faulty(3, "carry" + blank(594) + "100 of [a];", 1, 600);
        Check.faulty(3, "carry" + blank(594) + "000 of [a];", 2, 599);
        Check.faulty(3, "carry" + blank(594) + "1000 of [a];", 1, 599);
        Check.faulty(3, "body aabb:a;carry" + blank(580) + "aabb;", 1, 600);
        Check.faulty(3, "body aabb:a;carry" + blank(580) + "aabc;", 3, 597);
        Check.faulty(3, "carry 1 of [0" + blank(586) + "of [a]];", 2, 12);
        Check.faulty(3, "carry 1 of [0" + blank(586) + "o f[a]];", 1, 599);
        Check.faulty(3, "carry 1 of [0" + blank(586) + "*a];", 1, 600);
    }

    private static void noSuchMember() {
        Check.sentence("no such MEMBER (at it)");
        for (int n = 1; n <= 12; n++) {
            Check.good(n, "carry " + (char) ('a' + n - 1) + ";", 0);
            Check.faulty(n, "carry a and " + (char) ('a' + n) + ";", 2, 12);
        }
        Check.faulty(12, "carry z;", 2, 6);
        Check.faulty(3, "body aa:d;carry aa;", 2, 8);
        Check.faulty(3, "carry 1 of [3*d];", 2, 14);
    }

    private static void namesToldTwice() {
        Check.sentence("3 a NAME that is told twice (at it)");
        Check.faulty(3, "body aa:a;body aa:a;carry a;", 3, 15);
        Check.faulty(3, bodies(15) + "body xo:b;carry a;", 3, 155);
        Check.faulty(3, bodies(15) + "body xa:b;carry a;", 3, 155);
        Check.good(3, bodies(15) + "body x:a;".replace("x:", "xax:") + "carry xax;", 16);
    }

    private static void ones() {
        Check.sentence("4 a 121st ONE (at its first TOKEN)");
        Check.good(3, "carry " + "a or ".repeat(118) + "a;", 0);
        Check.good(3, "carry (" + "a or ".repeat(10) + "a)" + "or(a)".repeat(54) + ";", 0);
        Check.faulty(3, "carry (" + "a or ".repeat(10) + "a)" + "or(a)".repeat(54) + "or c;", 4, 332);
        Check.good(3, "carry " + "a and ".repeat(97) + "a;", 0);
        Check.good(3, "carry (" + "a and ".repeat(10) + "a)" + "and(a)".repeat(54) + ";", 0);
        Check.faulty(3, "carry (" + "a and ".repeat(10) + "a)" + "and(a)".repeat(54) + "and c;", 4, 397);
        String items = "carry 1 of [" + "a ".repeat(118);
        Check.good(3, items + "b];", 0);
        Check.faulty(3, items + "b c];", 4, 250);
        Check.faulty(3, items + "b 5*c];", 4, 252);
        Check.faulty(3, items + "b (c)];", 4, 250);
        Check.faulty(3, items + "b 1 of [c]];", 4, 250);
        Check.faulty(3, items + "(b)];", 4, 249);
        Check.faulty(3, items + "b] or c;", 4, 254);
        Check.faulty(3, items + "b] and c;", 4, 255);
        Check.faulty(3, items + "2 of [c]];", 4, 254);
        Check.faulty(3, "body aa:" + items.substring(6) + "b];carry aa;", 4, 259);
        Check.good(3, "body aa:" + items.substring(6) + "];carry aa;", 1);
        Check.good(3, "carry(" + "a or(".repeat(10) + "a" + ")".repeat(11) + ";", 0);
        Check.good(3, "carry " + "(a)or".repeat(59) + "(a);", 0);
        Check.faulty(3, "carry " + "(a)or".repeat(60) + " a;", 4, 307);
        Check.faulty(3, "carry " + "(a)or".repeat(59) + "((a));", 4, 303);
    }

    private static void openAtOnce() {
        Check.sentence("4 .. a thirteenth ( or [ open at once (at its first TOKEN)");
        String round = "(".repeat(12) + "a" + ")".repeat(12);
        String square = "1 of[".repeat(12) + "a" + "]".repeat(12);
        String both = "(1 of[".repeat(6) + "a" + "])".repeat(6);
        String[] twelve = {round, square, both};
        for (String deep : twelve) {
            Check.good(3, "carry " + deep + ";", 0);
            Check.good(3, "carry " + deep + " or " + deep + " and " + deep + ";", 0);
            Check.good(3, "body aa:" + deep + ";body bb:" + deep + ";carry " + deep + " and aa and bb;", 2);
            int at = 6 + deep.indexOf('a');
            Check.faulty(3, "carry " + deep.replace("a", "(a)") + ";", 4, at);
            Check.faulty(3, "carry " + deep.replace("a", "1 of [a]") + ";", 4, at + 5);
        }
        Check.faulty(3, "carry " + round.replace("a", "a or (b)") + ";", 4, 23);
        Check.faulty(3, "carry " + square.replace("a", "a 1 of [b]") + ";", 4, 73);
        Check.good(3, "carry 1 of [" + "(a) 1 of [b] ".repeat(20) + "];", 0);
        Check.good(3, "carry " + "(".repeat(11) + "(a) and (b) or 1 of [c]" + ")".repeat(11) + ";", 0);
    }

    /** What is twelve deep means what it should. */
    private static void deepMeaning() {
        Check.sentence("'or', 'and' as one of them, as all do: twelve open at once");
        Check.means(3, "carry " + "a or b and (".repeat(12) + "c" + ")".repeat(12) + ";", "01010111");
        Check.means(3, "carry " + "(a or b and 1 of [0*a ".repeat(6) + "c" + "])".repeat(6) + ";", "01010111");
        Check.means(3, "carry " + "3 of [2*a 2*b ".repeat(12) + "c" + "]".repeat(12) + ";", "00010111");
        Check.means(3, "carry " + "(a and b or 1 of[".repeat(6) + "c" + "])".repeat(6) + ";", "00011111");
    }

    private static void seventeenNames() {
        Check.sentence("4 .. a seventeenth NAME (at the NAME)");
        Check.good(3, bodies(16) + "carry xa and xp;", 16);
        Check.faulty(3, bodies(17) + "carry xa;", 4, 165);
        Check.faulty(3, bodies(16) + "body  \nxq", 4, 167);
        Check.faulty(3, bodies(16) + "body", 1, 164);
        Check.faulty(3, bodies(16) + "body :", 1, 165);
    }

    /** What one text used up, or left open where its fault was, is there again for the next. */
    private static void eachTextAnew() {
        Check.sentence("4 a 121st ONE, a thirteenth ( or [ open at once, a seventeenth NAME: of one text");
        String full = bodies(16) + "carry 1 of [" + "a ".repeat(102) + "b];";
        String deep = "carry " + "1 of[".repeat(12) + "b" + "]".repeat(12) + ";";
        String deeper = "carry " + "(".repeat(13) + "a" + ")".repeat(13) + ";";
        CarryHouse x = new CarryHouse();
        x.members(2);
        for (int i = 0; i < 4; i++) {
            Check.due("120 ones, 16 names", Check.statute(x, full, 0), 16);
            Check.due("a or b", x.carries(1, 0) * 2 + x.carries(2, 0), 3);
            Check.due("twelve open", Check.statute(x, deep, 0), 0);
            Check.due("b alone", x.carries(1, 0) * 2 + x.carries(2, 0), 1);
            Check.due("thirteen open", Check.statute(x, deeper, 0), i < 3 ? -19 : -1000);
        }
        CarryHouse y = new CarryHouse();
        for (int i = 0; i < 20; i++) {
            Check.due("thirteen open, again", Check.statute(y, deeper, 0), -19);
            Check.due("a fault where eleven are open", Check.statute(y, "carry " + "1 of [".repeat(11), 0), -73);
            Check.due("seventeen names", Check.statute(y, bodies(17), 0), -166);
        }
        Check.due("twelve open still", Check.statute(y, deep, 0), 0);
    }

    private static void howManyNames() {
        Check.sentence("Promise 6: The tape is a STATUTE from a day on: how many NAMES");
        for (int n = 0; n <= 16; n++) {
            Check.good(3, bodies(n) + "carry a;", n);
        }
    }

    private static void placeOfFault() {
        Check.sentence("Promise 6: -1 less the place of a FAULT");
        CarryHouse x = new CarryHouse();
        Check.due("at 0", x.statute(0), -1);
        Check.due("at 0, a token", Check.statute(x, "$", 0), -1);
        Check.due("at 1", Check.statute(x, " $", 0), -2);
        Check.due("at 599", Check.statute(x, blank(599) + "$", 0), -600);
        Check.due("at 600", Check.statute(x, blank(600), 0), -601);
        Check.due("at 600, of 640", Check.statute(x, blank(640), 0), -601);
    }

    private static void noneIsTold() {
        Check.sentence("Promise 6: a FAULT: none is told");
        CarryHouse x = Check.house(3, "carry a;");
        String[] faulty = {"carry b", "carry d;", "carry bb;", "carry " + "(".repeat(13) + "b" + ")".repeat(13) + ";"};
        for (int i = 0; i < faulty.length; i++) {
            Check.due("a fault", Check.statute(x, faulty[i], 0) < 0, true);
            Check.due("its kind", x.fault(), i + 1);
            Check.due("how many", x.count(2), 1);
            Check.due("a still", x.carries(1, 0), 1);
            Check.due("not b", x.carries(2, 0), 0);
            Check.due("the least set", x.setAt(1, 0), 1);
        }
        CarryHouse y = new CarryHouse();
        for (int i = 0; i < 10; i++) {
            Check.statute(y, "carry", 0);
        }
        Check.due("faulty ones are none of the 8", Check.statute(y, "carry b;", 0), 0);
    }

    private static void eightStatutes() {
        Check.sentence("Promise 6: -1000: there are 8");
        CarryHouse x = new CarryHouse();
        for (int i = 0; i < 8; i++) {
            Check.due("one more", Check.statute(x, i < 7 ? "carry a;" : "carry b;", i), 0);
            Check.due("how many", x.count(2), i + 1);
        }
        Check.due("a ninth", Check.statute(x, "carry c;", 0), -1000);
        Check.due("a ninth, later", Check.statute(x, "carry c;", 999), -1000);
        Check.due("a ninth with a fault", Check.statute(x, "carry d;", 0), -1000);
        Check.due("a ninth, empty", x.statute(0), -1000);
        Check.due("eight still", x.count(2), 8);
        Check.due("the eighth is in force", x.carries(2, 999), 1);
        Check.due("the seventh too, ahead of it", x.carries(1, 6), 1);
        Check.due("no ninth", x.carries(4, 999), 0);
    }

    private static void noSuchDay() {
        Check.sentence("Promise 6: -1000: .. no such day; each in force from TODAY or a later day on");
        CarryHouse x = new CarryHouse();
        for (int day : FAR) {
            Check.due("from " + day, Check.statute(x, "carry a;", day), -1000);
        }
        Check.due("from -1", Check.statute(x, "carry a;", -1), -1000);
        Check.due("from 1000", Check.statute(x, "carry a;", 1000), -1000);
        Check.due("none told", x.count(2), 0);
        Check.due("from 0", Check.statute(x, "carry a;", 0), 0);
        Check.due("from 999", Check.statute(x, "carry b;", 999), 0);
        x.next(500);
        Check.due("from yesterday", Check.statute(x, "carry c;", 499), -1000);
        Check.due("from the first day", Check.statute(x, "carry c;", 0), -1000);
        Check.due("from today", Check.statute(x, "carry c;", 500), 0);
        Check.due("from tomorrow", Check.statute(x, "carry c;", 501), 0);
        x.next(499);
        Check.due("the last day but one is gone", Check.statute(x, "carry c;", 998), -1000);
        Check.due("the last day", Check.statute(x, "carry c;", 999), 0);
        Check.due("behind it", Check.statute(x, "carry c;", 1000), -1000);
    }

    private static void emptyThen() {
        Check.sentence("Promise 6: The tape (empty then, here and below)");
        CarryHouse x = new CarryHouse();
        Check.statute(x, "carry a;", 0);
        Check.due("told", x.count(4), 0);
        Check.due("and read no more", x.statute(0), -1);
        Check.statute(x, "carry a", 0);
        Check.due("faulty", x.count(4), 0);
        Check.statute(x, blank(640), 0);
        Check.due("long", x.count(4), 0);
        Check.statute(x, "carry a;", 1000);
        Check.due("no such day", x.count(4), 0);
        Check.due("what is fed then comes first", x.feed(0, 0, 0, 0, 0), 20);
        for (int i = 0; i < 8; i++) {
            Check.statute(x, "carry a;", 0);
        }
        Check.statute(x, "carry a;", 0);
        Check.due("a ninth", x.count(4), 0);
    }

    private static void faultOfLatest() {
        Check.sentence("Promise 7: The kind of the FAULT of the latest statute() that did not tell -1000");
        CarryHouse x = new CarryHouse();
        String[] faulty = {"carry a", "carry 0 of [a];", "carry aa;", "carry " + "(".repeat(13)};
        for (int i = 0; i < faulty.length; i++) {
            Check.statute(x, faulty[i], 0);
            Check.due("a fault's kind", x.fault(), i + 1);
            Check.statute(x, faulty[3 - i], 1000);
            Check.due("not that of no such day", x.fault(), i + 1);
            Check.statute(x, "carry a;", -1);
            Check.due("nor that of a good one then", x.fault(), i + 1);
        }
        for (int i = 0; i < 8; i++) {
            Check.statute(x, "carry a;", 0);
            Check.due("0 without one", x.fault(), 0);
        }
        Check.statute(x, "carry", 0);
        Check.due("not that of a ninth", x.fault(), 0);
        CarryHouse y = new CarryHouse();
        for (int i = 0; i < 7; i++) {
            Check.statute(y, "carry a;", 0);
        }
        Check.statute(y, "carry aa;", 0);
        Check.statute(y, "carry a;", 3);
        Check.statute(y, "carry bb;", 3);
        Check.due("the eighth was good", y.fault(), 0);
    }

    private static void faultAtFirst() {
        Check.sentence("Promise 7: 0 without one and ahead of any");
        CarryHouse x = new CarryHouse();
        Check.due("ahead of any", x.fault(), 0);
        Check.statute(x, "carry d;", -1);
        Check.due("behind -1000 alone", x.fault(), 0);
        Check.statute(x, "carry d;", 0);
        Check.statute(x, "carry c;", 0);
        Check.due("without one", x.fault(), 0);
    }
}
