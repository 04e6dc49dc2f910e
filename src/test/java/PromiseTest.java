import java.util.Arrays;

/** At least one check a promise, worked out by hand from the document; the numbers are the promises'. */
public final class PromiseTest {
    private static final int NO_SUM = -1000000;
    private static int passed;
    private static int failed;
    private static int promise;

    public static void main(String[] args) {
        promise = 1; newObject();
        promise = 2; clock();
        promise = 3; feed();
        promise = 4; end();
        promise = 5; act(); actFaults(); actNumbers(); actProofs();
        promise = 6; force();
        promise = 7; person();
        promise = 8; anew();
        promise = 9; dies();
        promise = 10; judge();
        promise = 11; line();
        promise = 12; book(); alike();
        promise = 13; file();
        promise = 14; summons();
        promise = 15; hear(); bench(); judged(); split();
        promise = 16; order(); means();
        promise = 17; pay();
        promise = 18; strike();
        promise = 19; seize();
        promise = 20; gaol();
        promise = 21; claim();
        promise = 22; state(); known();
        promise = 23; plan(); planBest();
        promise = 24; planned();
        promise = 25; net(); netOrder(); netPayments(); netToTheLast();
        promise = 26; netted();
        promise = 27; list();
        promise = 28; walk();
        promise = 29; walked();
        promise = 30; habit(); habitOfSixty();
        promise = 31; other();
        promise = 32; count();
        System.out.println(passed + " passed, " + failed + " failed");
        System.exit(failed == 0 ? 0 : 1);
    }

    private static void due(String what, long got, long want) {
        if (got == want) {
            passed++;
        } else {
            failed++;
            System.out.println("promise " + promise + ": " + what + " answered " + got + ", due is " + want);
        }
    }

    private static void due(String what, boolean got, boolean want) {
        due(what, got ? 1 : 0, want ? 1 : 0);
    }

    private static void write(SmallCourt x, String text) {
        x.end(0);
        char[] chars = Arrays.copyOf(text.toCharArray(), (text.length() + 19) / 20 * 20);
        for (int i = 0; i < chars.length; i += 20) {
            int[] f = new int[5];
            for (int k = 0; k < 20; k++) {
                f[k / 4] = f[k / 4] << 8 | chars[i + k];
            }
            x.feed(f[0], f[1], f[2], f[3], f[4]);
        }
        x.end(text.length());
    }

    private static int act(SmallCourt x, int day, String text) {
        write(x, text);
        return x.act(day);
    }

    /** What act() tells of a text on a new object: the number, or the FAULT as place and kind, 10 * place + kind. */
    private static int fault(String text) {
        int told = act(new SmallCourt(), 0, text);
        int fault = -2 - told;
        return told >= 0 ? NO_SUM : (fault - 1) / 8 * 10 + (fault - 1) % 8;
    }

    private static void fine(String text) {
        due("act of '" + text + "'", fault(text), NO_SUM);
    }

    /** Two parties without kin (0 and 1, born long ago, 0 pence of need), three judges (2 to 4), and an ACT. */
    private static SmallCourt court(String text) {
        SmallCourt x = new SmallCourt();
        act(x, 0, text);
        for (int i = 0; i < 5; i++) {
            x.person(-20000, 1000, 1, 10 * i, 20, -1);
        }
        for (int i = 2; i < 5; i++) {
            x.judge(i, true);
        }
        return x;
    }

    private static int proved(SmallCourt x, int p, int q, int sum) {
        int claim = x.file(p, q, sum, 0, false, 0);
        x.summons(claim, true);
        x.hear(claim, true, false, 0);
        return claim;
    }

    private static int ordered(SmallCourt x, int p, int q, int sum, int w) {
        int claim = proved(x, p, q, sum);
        x.order(claim, w);
        return claim;
    }

    private static void newObject() {
        SmallCourt x = new SmallCourt();
        for (int what = 0; what < 9; what++) {
            due("count(" + what + ") of a new one", x.count(what), 0);
        }
        due("force(0, 0)", x.force(0, 0), -1);
        due("claim(0, 0)", x.claim(0, 0), -1);
        due("planned(0, 0)", x.planned(0, 0), -1);
        due("walked(0)", x.walked(0), -1);
        due("netted(0)", x.netted(0), -1);
        due("netted(NONE)", x.netted(-1), -1);
        due("NONE", SmallCourt.NONE, -1);
    }

    private static void clock() {
        SmallCourt x = new SmallCourt();
        due("clock(0)", x.clock(0), true);
        due("clock(-1)", x.clock(-1), false);
        due("clock(5)", x.clock(5), true);
        due("clock(5) again", x.clock(5), true);
        due("clock(4)", x.clock(4), false);
        due("now", x.count(0), 5);
        due("clock(8000)", x.clock(8000), false);
        due("now", x.count(0), 5);
        due("clock(7999)", x.clock(7999), true);
        due("now", x.count(0), 7999);
    }

    private static void feed() {
        SmallCourt x = new SmallCourt();
        for (int i = 1; i <= 20; i++) {
            due("feed", x.feed(0, 0, 0, 0, 0), 20 * i);
        }
        due("feed of a full one", x.feed(1, 1, 1, 1, 1), -1);
        due("bytes", x.count(7), 400);
        x.end(381);
        due("feed behind 381", x.feed(0, 0, 0, 0, 0), -1);
        x.end(380);
        due("feed behind 380", x.feed(0, 0, 0, 0, 0), 400);
        x.end(0);
        // "most", " 77;", "week", " 8", as highest first.
        due("feed", x.feed(0x6d6f7374, 0x2037373b, 0x7765656b, 0x20380000, 0), 20);
        x.end(14);
        due("act of it", x.act(0), 0);
        due("most of it", x.force(0, 1), 77);
        due("week of it", x.force(0, 3), 8);
        x.feed(0x6d6f7374, 0x20ffffff, -1, -1, -1);
        due("a byte of 255 can't stand", x.act(0), -2 - (1 + 8 * 5));
    }

    private static void end() {
        SmallCourt x = new SmallCourt();
        due("end(0)", x.end(0), 0);
        due("end(1)", x.end(1), -1);
        x.feed(0x61676520, 0x39000000, 0, 0, 0);
        due("end(-1)", x.end(-1), -1);
        due("end(21)", x.end(21), -1);
        due("bytes", x.count(7), 20);
        due("end(20)", x.end(20), 20);
        due("end(5)", x.end(5), 5);
        due("bytes", x.count(7), 5);
        due("end(6)", x.end(6), -1);
        due("act", x.act(0), 0);
        due("age", x.force(0, 9), 9);
    }

    private static void act() {
        SmallCourt x = new SmallCourt();
        due("act of nothing", x.act(7), 0);
        due("act of blanks", act(x, 7, "    "), 1);
        due("the last told", x.force(7, 0), 1);
        write(x, "age 3");
        due("act(-1)", x.act(-1), -1);
        due("act(8000)", x.act(8000), -1);
        due("the tape stays", x.count(7), 5);
        due("act(7999)", x.act(7999), 2);
        due("the tape is empty", x.count(7), 0);
        due("a fault", act(x, 0, "age"), -2 - (1 + 8 * 3));
        due("the tape is empty", x.count(7), 0);
        due("acts", x.count(1), 3);
        for (int i = 3; i < 8; i++) {
            due("act", act(x, 0, "most " + (i + 1)), i);
        }
        write(x, "most");
        due("a ninth, ahead of its fault", x.act(0), -1);
        due("the tape stays", x.count(7), 4);
        due("acts", x.count(1), 8);
        fine("most 5;split 5;week 5;keep 5;late 5;gaol 5 5;longest 5;age 5;cost summons 5;cost hearing 5;cost order 5;"
            + "cost seizure 5;prove note=1");
        fine("  most   5  ;  gaol 1   1  ");
        fine("most5;gaol4 1");
    }

    private static void actFaults() {
        due("a wrong WORD", fault("mos 5"), 0);
        due("a longer WORD", fault("mosts 5"), 0);
        due("a WORD of 9", fault("oathoathoath 5"), 0);
        due("a fact as a CLAUSE", fault(" oath=1"), 10);
        due("a capital", fault("Most 5"), 0);
        due("the slots' own sign", fault("- 5"), 0);
        due("the end", fault("most"), 40);
        due("the end behind blanks", fault("most   "), 70);
        due("a WORD for a NUMBER", fault("most week"), 50);
        due("a sign for a NUMBER", fault("most -5"), 50);
        due("a second NUMBER", fault("most 5 6"), 70);
        due("a WORD behind", fault("most 5 week 5"), 70);
        due("nothing behind ;", fault("week 5;"), 70);
        due("nothing behind ; and blanks", fault("week 5; "), 80);
        due("nothing between", fault("week 5;;"), 70);
        due("; alone", fault(";"), 0);
        due("told twice", fault("week 5;week 6"), 72);
        due("told twice ahead of its own fault", fault("week 5; week"), 82);
        due("told twice behind a fault", fault("week 0;week 6"), 51);
        due("prove told twice", fault("prove oath=1;prove oath=1"), 132);
        due("a cost told twice", fault("cost order 5;cost order 6"), 182);
        fine("cost order 5;cost summons 6");
        due("a wrong STEP", fault("cost summon 5"), 50);
        due("no STEP", fault("cost 5"), 50);
        due("no number of a STEP", fault("cost order"), 100);
        due("gaol's second", fault("gaol 4"), 60);
        due("gaol's second", fault("gaol 4;"), 60);
    }

    private static void actNumbers() {
        String[] words = {"most", "split", "week", "keep", "late", "longest", "age", "cost order", "cost summons", "cost hearing",
            "cost seizure"};
        int[] least = {1, 0, 1, 0, 1, 1, 0, 0, 0, 0, 0};
        int[] most = {9999, 365, 999, 999, 20, 400, 40, 999, 999, 999, 999};
        for (int i = 0; i < words.length; i++) {
            int wrong = 10 * (words[i].length() + 1) + 1;
            fine(words[i] + " " + least[i]);
            fine(words[i] + " " + most[i]);
            due(words[i] + " too great", fault(words[i] + " " + (most[i] + 1)), wrong);
            due(words[i] + " of five digits", fault(words[i] + " 00001"), wrong);
            if (least[i] > 0) {
                due(words[i] + " 0", fault(words[i] + " 0"), wrong);
            }
        }
        fine("most 0001");
        fine("gaol 20 30");
        due("gaol 0", fault("gaol 0 1"), 51);
        due("gaol 21", fault("gaol 21 1"), 51);
        due("gaol 4 0", fault("gaol 4 0"), 71);
        due("gaol 4 31", fault("gaol 4 31"), 71);
        due("five digits in an EITHER", fault("prove oath=12345"), 111);
        fine("prove oath=0000");
        due("five digits where no NUMBER can stand", fault("prove 12345"), 60);
    }

    private static void actProofs() {
        due("no EITHER", fault("prove"), 50);
        due("no SIGN", fault("prove oath"), 100);
        due("no RIGHT", fault("prove oath = "), 130);
        due("a wrong RIGHT", fault("prove oath = oaths"), 130);
        due("not as RIGHT", fault("prove oath = not"), 130);
        due("no )", fault("prove (oath=1"), 130);
        due("; within (", fault("prove (oath=1;"), 130);
        due("no (", fault("prove oath=1)"), 120);
        due("nothing in ()", fault("prove ()"), 70);
        due("two SIGNS", fault("prove oath==1"), 110);
        due("= <", fault("prove oath=<1"), 110);
        due("< =", fault("prove oath< =1"), 120);
        due("<>", fault("prove oath<>1"), 110);
        due("and first", fault("prove and"), 60);
        due("xor", fault("prove oath=1 xor note=1"), 130);
        due("and, then nothing", fault("prove oath=1 and"), 160);
        due("orx", fault("prove oath=1 orx"), 130);
        fine("prove oath=1and note<=2or(own>=other)or not alike>3");
        fine("prove not(oath=1)and(note=1)or(not(own<1))");
        String nots = "prove not not not not not not not not ";
        fine(nots + "oath=1");
        due("a ninth not", fault(nots + "not oath=1"), 383);
        due("a ninth (", fault(nots + "(oath=1)"), 383);
        fine("prove ((((((((oath=1))))))))");
        due("a ninth (", fault("prove (((((((((oath=1"), 143);
        fine("prove not oath=1 and not not oath=1 or (not oath=1) and ((((((((oath=1))))))))");
        StringBuilder twenty = new StringBuilder("prove own=1");
        for (int i = 1; i < 20; i++) {
            twenty.append(" or own=1");
        }
        fine(twenty.toString());
        due("the 21st", fault(twenty + " or own=1"), 10 * (twenty.length() + 4) + 4);
        due("the 21st, cut off", fault(twenty + " or own"), 10 * (twenty.length() + 4) + 4);
        due("the 21st of a wrong WORD", fault(twenty + " or owns=1"), 10 * (twenty.length() + 4));
    }

    private static void force() {
        SmallCourt x = new SmallCourt();
        int[] without = {-1, 480, 30, 12, 60, 2, 4, 1, 40, 21, 0, 0, 0, 0};
        int[] told = {0, 1, 2, 3, 4, 5, 6, 7, 8, 9, 10, 11, 12, 13};
        act(x, 10, "most 1;split 2;week 3;keep 4;late 5;gaol 6 7;longest 8;age 9;cost summons 10;cost hearing 11;"
            + "cost order 12;cost seizure 13");
        for (int what = 0; what < 14; what++) {
            due("force(9, " + what + ")", x.force(9, what), without[what]);
            due("force(10, " + what + ")", x.force(10, what), told[what]);
        }
        due("force(-1, 1)", x.force(-1, 1), -1);
        due("force(8000, 1)", x.force(8000, 1), -1);
        due("force(0, -1)", x.force(0, -1), -1);
        due("force(0, 14)", x.force(0, 14), -1);
        act(x, 5, "most 55");
        act(x, 10, "most 66");
        act(x, 20, "most 77");
        due("the latest DAY", x.force(9, 0), 1);
        due("of several the last told", x.force(19, 0), 2);
        due("the latest DAY", x.force(7999, 1), 77);
        due("ahead of all", x.force(4, 0), -1);
        act(x, 6, "age 0");
        due("an earlier DAY told later", x.force(12, 0), 2);
    }

    private static void person() {
        SmallCourt x = new SmallCourt();
        int[][] wrong = {{-30001, 0, 1, 0, 0, 0}, {8000, 0, 1, 0, 0, 0}, {0, -1, 1, 0, 0, 0}, {0, 10000, 1, 0, 0, 0},
            {0, 0, 0, 0, 0, 0}, {0, 0, 21, 0, 0, 0}, {0, 0, 1, -1, 0, 0}, {0, 0, 1, 100, 0, 0}, {0, 0, 1, 0, -1, 0},
            {0, 0, 1, 0, 100, 0}, {0, 0, 1, 0, 0, -2}, {0, 0, 1, 0, 0, 20}};
        for (int[] w : wrong) {
            due("person" + Arrays.toString(w), x.person(w[0], w[1], w[2], w[3], w[4], w[5]), -1);
        }
        due("none came", x.count(2), 0);
        due("least", x.person(-30000, 0, 1, 0, 0, -1), 0);
        due("most", x.person(7999, 9999, 20, 99, 99, 19), 1);
        for (int i = 2; i < 40; i++) {
            due("one more", x.person(0, 0, 1, 0, 0, 0), i);
        }
        due("a 41st", x.person(0, 0, 1, 0, 0, 0), -1);
        due("persons", x.count(2), 40);
    }

    private static void anew() {
        SmallCourt x = court("keep 10;week 1;prove oath=1");
        int[][] wrong = {{-1, 5, 1, 5, 5}, {5, 5, 1, 5, 5}, {1, -1, 1, 5, 5}, {1, 10000, 1, 5, 5}, {1, 5, 0, 5, 5},
            {1, 5, 21, 5, 5}, {1, 5, 1, -1, 5}, {1, 5, 1, 100, 5}, {1, 5, 1, 5, -1}, {1, 5, 1, 5, 100}};
        for (int[] w : wrong) {
            due("anew" + Arrays.toString(w), x.anew(w[0], w[1], w[2], w[3], w[4]), false);
        }
        int claim = proved(x, 0, 1, 100);
        due("anew", x.anew(1, 50, 3, 50, 99), true);
        due("the same again", x.anew(1, 50, 3, 50, 99), true);
        due("above the new MEANS", x.order(claim, 21), -3);
        due("within the new MEANS", x.order(claim, 20), 100);
        x.list(x.file(0, 1, 5, 0, false, 0));
        due("to the new DOOR", x.walk(), 98);
        x.dies(1);
        due("anew of the DEAD", x.anew(1, 60, 3, 50, 99), false);
        due("bounds", x.anew(0, 9999, 20, 99, 0), true);
        due("bounds", x.anew(0, 0, 1, 0, 99), true);
    }

    private static void dies() {
        SmallCourt x = court("prove oath=1");
        due("dies(-1)", x.dies(-1), false);
        due("dies(5)", x.dies(5), false);
        due("dies(1)", x.dies(1), true);
        due("dies(1) again", x.dies(1), false);
        due("judges that live", x.count(3), 3);
        due("a JUDGE dies", x.dies(2), true);
        due("judges that live", x.count(3), 2);
        due("persons", x.count(2), 5);
        due("against the dead", x.file(0, 1, 5, 0, false, 0), -1);
        due("of the dead", x.file(1, 0, 5, 0, false, 0), 0);
    }

    private static void judge() {
        SmallCourt x = court("");
        due("judge(-1)", x.judge(-1, true), false);
        due("judge(5)", x.judge(5, true), false);
        due("a JUDGE", x.judge(0, true), true);
        due("a JUDGE already", x.judge(0, true), false);
        due("judges", x.count(3), 4);
        due("none any more", x.judge(0, false), true);
        due("none already", x.judge(0, false), false);
        due("judges", x.count(3), 3);
        x.dies(4);
        due("the dead", x.judge(4, false), true);
        due("the dead", x.judge(4, true), true);
        due("judges", x.count(3), 2);
    }

    private static void line() {
        SmallCourt x = court("");
        x.clock(100);
        int[][] wrong = {{-1, 1, 5, 0, 5}, {5, 1, 5, 0, 5}, {0, -1, 5, 0, 5}, {0, 5, 5, 0, 5}, {1, 1, 5, 0, 5},
            {0, 1, -1, 0, 5}, {0, 1, 101, 0, 5}, {0, 1, 5, -1, 5}, {0, 1, 5, 4, 5}, {0, 1, 5, 0, 0}, {0, 1, 5, 0, 10000}};
        for (int[] w : wrong) {
            due("line" + Arrays.toString(w), x.line(w[0], w[1], w[2], w[3], w[4]), -1);
        }
        due("lines", x.count(4), 0);
        due("now", x.line(0, 1, 100, 0, 9999), 1);
        due("first", x.line(1, 0, 0, 3, 1), 2);
        x.dies(0);
        due("of the dead", x.line(0, 1, 0, 3, 1), 3);
        for (int i = 4; i <= 400; i++) {
            due("one more", x.line(0, 1, i % 100, 1, 1), i);
        }
        due("a 401st", x.line(0, 1, 5, 0, 5), -1);
        due("lines", x.count(4), 400);
        due("book", x.book(0, 1, 7999, 0), 9999 + 1 - 397);
    }

    private static void book() {
        SmallCourt x = court("");
        x.clock(50);
        x.line(0, 1, 10, 0, 1000);
        x.line(0, 1, 20, 1, 300);
        x.line(0, 1, 5, 2, 40);
        x.line(0, 2, 5, 0, 7);
        x.line(0, 1, 30, 3, 2);
        x.line(1, 0, 30, 3, 9000);
        x.line(0, 2, 29, 3, 1);
        due("up to 4", x.book(0, 1, 4, 0), 0);
        due("up to 5", x.book(0, 1, 5, 0), -40);
        due("up to 10", x.book(0, 1, 10, 0), 960);
        due("up to 29", x.book(0, 1, 29, 0), 660);
        due("all", x.book(0, 1, 7999, 0), 662);
        due("the other book", x.book(1, 0, 7999, 0), 9000);
        due("with another", x.book(0, 2, 50, 0), 8);
        for (int what = 0; what < 3; what++) {
            due("of oneself, what " + what, x.book(0, 0, 50, what), NO_SUM);
            due("of oneself without LINES, what " + what, x.book(4, 4, 50, what), NO_SUM);
        }
        due("disorder", x.book(0, 1, 0, 2), 2);
        due("disorder", x.book(0, 4, 50, 2), 2);
        due("disorder of 1", x.book(1, 0, 50, 2), 0);
        int[][] wrong = {{-1, 1, 5, 0}, {5, 1, 5, 0}, {0, -1, 5, 0}, {0, 5, 5, 0}, {0, 1, -1, 0}, {0, 1, 8000, 0},
            {0, 1, 5, -1}, {0, 1, 5, 3}, {0, 1, -1, 2}};
        for (int[] w : wrong) {
            due("book" + Arrays.toString(w), x.book(w[0], w[1], w[2], w[3]), NO_SUM);
        }
    }

    private static void alike() {
        SmallCourt x = court("");
        x.clock(50);
        x.line(0, 1, 10, 0, 5);
        x.line(1, 0, 14, 1, 5);
        due("4 apart", x.book(0, 1, 50, 1), 0);
        x.line(1, 0, 13, 1, 5);
        due("3 apart", x.book(0, 1, 50, 1), 1);
        due("of the other", x.book(1, 0, 50, 1), 1);
        due("one behind the DAY", x.book(0, 1, 12, 1), 0);
        due("on the DAY", x.book(0, 1, 13, 1), 1);
        x.line(0, 1, 14, 0, 5);
        due("two pairs, the earliest first", x.book(0, 1, 50, 1), 2);
        x.line(0, 1, 16, 0, 5);
        due("no LINE twice", x.book(0, 1, 50, 1), 2);
        x.line(1, 0, 16, 0, 5);
        x.line(1, 0, 16, 1, 6);
        x.line(1, 0, 16, 2, 5);
        x.line(1, 2, 16, 1, 5);
        x.line(2, 0, 16, 1, 5);
        due("other KINDS, sums, persons", x.book(0, 1, 50, 1), 2);
        x.line(0, 1, 19, 3, 5);
        due("was paid and paid", x.book(0, 1, 50, 1), 3);
        x.line(0, 1, 30, 2, 8);
        x.line(1, 0, 27, 3, 8);
        due("paid and was paid", x.book(1, 0, 50, 1), 4);
        due("up to 29", x.book(1, 0, 29, 1), 3);
        SmallCourt y = court("");
        y.clock(20);
        y.line(0, 1, 13, 0, 5);
        y.line(0, 1, 10, 0, 5);
        y.line(1, 0, 16, 1, 5);
        y.line(1, 0, 11, 1, 5);
        due("whatever order they were told in", y.book(0, 1, 20, 1), 2);
        due("whatever order they were told in", y.book(1, 0, 20, 1), 2);
    }

    private static void file() {
        SmallCourt x = court("");
        x.clock(10);
        int[][] wrong = {{-1, 1, 5, 5, 0}, {5, 1, 5, 5, 0}, {0, -1, 5, 5, 0}, {0, 5, 5, 5, 0}, {1, 1, 5, 5, 0},
            {0, 1, 0, 5, 0}, {0, 1, 10000, 5, 0}, {0, 1, 5, -1, 0}, {0, 1, 5, 11, 0}, {0, 1, 5, 5, -1}, {0, 1, 5, 5, 10}};
        for (int[] w : wrong) {
            due("file" + Arrays.toString(w), x.file(w[0], w[1], w[2], w[3], true, w[4]), -1);
        }
        due("claims", x.count(5), 0);
        due("least", x.file(0, 1, 1, 0, false, 0), 0);
        due("most", x.file(0, 1, 9999, 10, true, 9), 1);
        due("the ACT", x.claim(1, 12), 0);
        act(x, 10, "age 1");
        due("the ACT as it was then", x.claim(1, 12), 0);
        x.file(1, 0, 5, 5, false, 0);
        due("the new ACT", x.claim(2, 12), 1);
        x.dies(4);
        due("against the dead", x.file(0, 4, 5, 5, false, 0), -1);
        for (int i = 3; i < 100; i++) {
            due("one more", x.file(0, 1, 5, 5, false, 0), i);
        }
        due("a 101st", x.file(0, 1, 5, 5, false, 0), -1);
        due("claims", x.count(5), 100);
    }

    private static void summons() {
        SmallCourt x = court("cost summons 3;prove oath=1");
        x.file(0, 1, 100, 0, false, 0);
        due("summons(-1)", x.summons(-1, true), -1);
        due("summons(1)", x.summons(1, true), -1);
        due("a try", x.summons(0, false), 1);
        due("state", x.state(0, 0, 0, 0), 0);
        due("not found", x.hear(0, true, false, 0), -1);
        x.dies(1);
        due("the dead are summoned too", x.summons(0, false), 2);
        due("found", x.summons(0, true), 3);
        due("state", x.state(0, 0, 0, 0), 1);
        due("no more", x.summons(0, true), -1);
        due("tries", x.claim(0, 4), 3);
        x.file(1, 0, 100, 0, false, 0);
        x.summons(1, false);
        x.summons(1, true);
        x.hear(1, true, false, 0);
        due("none once heard", x.summons(1, false), -1);
        due("each costs", x.order(1, 100), 106);
    }

    private static void hear() {
        SmallCourt x = court("prove oath=1 and denied=0");
        for (int i = 0; i < 4; i++) {
            x.file(0, 1, 100, 0, false, 0);
            x.summons(i, i != 3);
        }
        due("hear(-1)", x.hear(-1, true, false, 0), -1);
        due("hear(4)", x.hear(4, true, false, 0), -1);
        due("not found", x.hear(3, true, false, 0), -1);
        due("draw below 0", x.hear(0, true, false, -1), -1);
        due("nothing happened", x.claim(0, 5), 0);
        due("nothing happened", x.claim(0, 6), -1);
        due("proved", x.hear(0, true, false, 0), 5);
        due("again", x.hear(0, true, false, 0), -1);
        due("denied", x.hear(1, true, true, Integer.MAX_VALUE), 4);
        x.judge(2, false);
        due("two judges", x.hear(2, true, false, 0), -1);
        x.judge(2, true);
        x.dies(1);
        due("against the dead", x.hear(2, true, false, 0), -1);
        due("states", x.state(0, 0, 0, 0), 3);
        due("states", x.state(1, 0, 0, 0), 2);
        due("states", x.state(2, 0, 0, 0), 1);
    }

    private static void bench() {
        SmallCourt x = new SmallCourt();
        act(x, 0, "prove oath=1");
        int[] kin = {7, 8, 7, 8, -1, 3, 3, -1, 9};
        for (int k : kin) {
            x.person(-20000, 1000, 1, 0, 0, k);
        }
        for (int i = 0; i < 9; i++) {
            x.judge(i, true);
        }
        // Neither the parties nor their kin sit: 4 to 8 do, ten sets of three.
        int[][] sets = {{4, 5, 6}, {4, 5, 7}, {4, 5, 8}, {4, 6, 7}, {4, 6, 8}, {4, 7, 8}, {5, 6, 7}, {5, 6, 8}, {5, 7, 8},
            {6, 7, 8}};
        for (int draw = 0; draw < 10; draw++) {
            int claim = x.file(0, 1, 1, 0, false, 0);
            x.summons(claim, true);
            x.hear(claim, true, false, draw + (draw % 2 == 0 ? 0 : 30));
            for (int i = 0; i < 3; i++) {
                due("the bench by draw " + draw, x.claim(claim, 6 + i), sets[draw][i]);
            }
        }
        x.dies(5);
        int claim = x.file(4, 1, 1, 0, false, 0);
        x.summons(claim, true);
        x.hear(claim, true, false, 2);
        // Without kin one is no kin of others that have none: 0, 2, 6, 7, 8 sit.
        due("the bench", x.claim(claim, 6) * 100 + x.claim(claim, 7) * 10 + x.claim(claim, 8), 28);
        x.judge(6, false);
        x.judge(7, false);
        x.judge(8, false);
        claim = x.file(4, 1, 1, 0, false, 0);
        x.summons(claim, true);
        due("two are left", x.hear(claim, true, false, 2), -1);
    }

    private static int judgedOf(SmallCourt x, int sum, int from, boolean oath, boolean denied, boolean note, int witnesses) {
        int claim = x.file(0, 1, sum, from, note, witnesses);
        x.summons(claim, true);
        return x.hear(claim, oath, denied, 0);
    }

    private static void judged() {
        SmallCourt x = new SmallCourt();
        x.clock(100);
        act(x, 0, "age 1;most 500;split 0;prove note=1 and witness>2 or oath=1 and not denied=1");
        x.person(0, 1000, 1, 0, 0, -1);
        x.person(-300, 1000, 1, 0, 0, -1);
        for (int i = 2; i < 5; i++) {
            x.person(0, 0, 1, 0, 0, -1);
            x.judge(i, true);
        }
        due("365 DAYS less one", judgedOf(x, 501, 64, false, false, false, 0), 1);
        due("365 DAYS", judgedOf(x, 501, 65, false, false, false, 0), 2);
        x.clock(101);
        due("most itself", judgedOf(x, 500, 65, false, false, false, 0), 4);
        x.clock(102);
        due("note and witnesses", judgedOf(x, 10, 65, false, true, true, 3), 5);
        due("too few witnesses", judgedOf(x, 10, 65, false, true, true, 2), 4);
        due("no note", judgedOf(x, 10, 65, false, true, false, 3), 4);
        due("oath", judgedOf(x, 10, 65, true, false, false, 0), 5);
        due("denied", judgedOf(x, 10, 65, true, true, false, 0), 4);
        due("without: oath", judgedWithout(true, false), 5);
        due("without: no oath", judgedWithout(false, false), 4);
        due("without: denied", judgedWithout(true, true), 4);
        booksJudged("own=70", true);
        booksJudged("own>=claimed", true);
        booksJudged("own>claimed", false);
        booksJudged("other=60", true);
        booksJudged("other<own", true);
        booksJudged("alike=1", true);
        booksJudged("alike=2", false);
        booksJudged("claimed<=70 and 0=0", false);
        booksJudged("claimed<=70 and oath=denied", true);
        booksJudged("not own=70 or alike=1", true);
        booksJudged("not (own=70 or alike=1)", false);
        booksJudged("own=1 and own=1 or own=70", true);
        booksJudged("own=1 and (own=1 or own=70)", false);
        booksJudged("own=70 or own=1 and own=1", true);
        booksJudged("not not own=70", true);
    }

    private static int judgedWithout(boolean oath, boolean denied) {
        SmallCourt x = new SmallCourt();
        for (int i = 0; i < 5; i++) {
            x.person(-9000, 0, 1, 0, 0, -1);
            x.judge(i, true);
        }
        return judgedOf(x, 10, 0, oath, denied, true, 9);
    }

    private static void booksJudged(String proof, boolean isProved) {
        SmallCourt x = court("");
        x.clock(20);
        boolean stands = act(x, 0, "prove " + proof) >= 0;
        x.line(0, 1, 10, 0, 100);
        x.line(0, 1, 20, 2, 30);
        x.line(1, 0, 12, 1, 100);
        x.line(1, 0, 12, 3, 40);
        int claim = x.file(0, 1, 70, 0, false, 0);
        x.clock(30);
        x.line(0, 1, 21, 0, 1000);
        x.line(1, 0, 22, 1, 1000);
        x.summons(claim, true);
        due("prove " + proof, x.hear(claim, false, false, 0), stands && isProved ? 5 : 4);
    }

    private static void split() {
        SmallCourt x = court("most 100;split 10;prove oath=1");
        x.file(0, 1, 60, 0, false, 0);
        x.clock(10);
        x.file(0, 1, 30, 0, false, 0);
        x.file(0, 2, 90, 0, false, 0);
        x.file(1, 0, 90, 0, false, 0);
        x.clock(11);
        x.file(0, 1, 70, 0, false, 0);
        for (int i = 0; i < 5; i++) {
            x.summons(i, true);
        }
        due("all behind it", x.hear(0, true, false, 0), 3);
        due("those at most 10 DAYS ahead, and behind", x.hear(1, true, false, 0), 3);
        due("11 DAYS ahead counts no more, 100 is not above", x.hear(4, true, false, 0), 5);
        due("against another", x.hear(2, true, false, 0), -1);
        due("the other way round", x.hear(3, true, false, 0), 5);
    }

    private static void order() {
        SmallCourt x = court("week 10;keep 0;cost summons 1;cost hearing 20;cost order 300;prove oath=1;most 9999");
        x.file(0, 1, 5, 0, false, 0);
        x.summons(0, false);
        x.summons(0, true);
        due("not heard", x.order(0, 50), -1);
        x.hear(0, true, false, 0);
        due("order(-1)", x.order(-1, 50), -1);
        due("order(1)", x.order(1, 50), -1);
        due("w 0", x.order(0, 0), -1);
        due("w 10000", x.order(0, 10000), -1);
        due("below week", x.order(0, 9), -2);
        due("above MEANS", x.order(0, 1001), -3);
        due("no ORDER yet", x.claim(0, 9), -1);
        x.clock(3);
        due("OWED", x.order(0, 1000), 5 + 2 + 20 + 300);
        due("once", x.order(0, 1000), -1);
        due("its DAY", x.claim(0, 9), 3);
        x.file(0, 1, 5, 0, false, 0);
        x.summons(1, true);
        x.hear(1, false, false, 0);
        due("LOST", x.order(1, 50), -1);
        int claim = proved(x, 2, 0, 5);
        due("judged 0 judges no more", claim, 2);
        x = court("week 10;keep 0;prove oath=1");
        claim = proved(x, 0, 1, 5);
        due("below week and all", x.order(claim, 4), -2);
        due("below week, yet all", x.order(claim, 5), 5);
        claim = proved(x, 0, 1, 5);
        x.dies(1);
        due("against the dead", x.order(claim, 5), -1);
    }

    private static void means() {
        SmallCourt x = court("week 1;keep 7;prove oath=1");
        x.anew(1, 100, 10, 0, 0);
        int a = ordered(x, 0, 1, 20, 10);
        int b = proved(x, 0, 1, 20);
        int c = ordered(x, 1, 0, 20, 10);
        due("MEANS 30, 10 open", x.order(b, 21), -3);
        due("MEANS 30, 10 open", x.order(b, 20), 20);
        int d = proved(x, 0, 1, 20);
        due("30 open", x.order(d, 1), -3);
        x.pay(a, 0, 20);
        due("CLEAR ones are not open", x.order(d, 11), -3);
        due("CLEAR ones are not open", x.order(d, 10), 20);
        due("of others not", x.claim(c, 10), 10);
        act(x, 0, "week 1;keep 0;prove oath=1");
        x.file(0, 1, 10, 0, false, 0);
        x.summons(4, true);
        x.hear(4, true, false, 0);
        due("by this CLAIM's ACT", x.order(4, 70), 10);
        x.anew(1, 10, 10, 0, 0);
        int e = proved(x, 0, 1, 3);
        due("MEANS less than open", x.order(e, 3), -3);
    }

    private static void pay() {
        SmallCourt x = court("week 1;keep 0;prove oath=1;cost order 1");
        x.clock(10);
        int a = proved(x, 0, 1, 100);
        due("not ordered", x.pay(a, 10, 5), -1);
        x.order(a, 10);
        x.clock(20);
        due("pay(-1)", x.pay(-1, 10, 5), -1);
        due("pay(1)", x.pay(1, 10, 5), -1);
        due("ahead of the ORDER", x.pay(a, 9, 5), -1);
        due("behind NOW", x.pay(a, 21, 5), -1);
        due("sum 0", x.pay(a, 10, 0), -1);
        due("sum 10000", x.pay(a, 10, 10000), -1);
        due("payments", x.count(6), 0);
        due("on the ORDER's DAY", x.pay(a, 10, 5), 0);
        due("now", x.pay(a, 20, 9999), 1);
        due("a CLEAR one", x.pay(a, 15, 1), 2);
        due("paid on 10", x.state(a, 10, 20, 3), 5);
        due("paid on 15", x.state(a, 15, 20, 3), 6);
        due("paid", x.state(a, 20, 20, 3), 10005);
        due("over", x.state(a, 20, 20, 4), 10005 - 101);
        due("payments", x.count(6), 3);
        x.dies(1);
        due("by the dead", x.pay(a, 15, 1), 3);
    }

    private static void strike() {
        SmallCourt x = court("week 1;keep 0;prove oath=1");
        int a = ordered(x, 0, 1, 100, 10);
        due("strike(-1)", x.strike(-1), false);
        due("strike(0)", x.strike(0), false);
        x.clock(5);
        x.pay(a, 3, 50);
        x.clock(8);
        due("strike", x.strike(0), true);
        due("again", x.strike(0), false);
        due("strike(1)", x.strike(1), false);
        due("ahead of being known", x.state(a, 8, 4, 3), 0);
        due("as known on 5", x.state(a, 8, 5, 3), 50);
        due("as known on 7", x.state(a, 3, 7, 3), 50);
        due("ahead of its DAY", x.state(a, 2, 7, 3), 0);
        due("as known on 8", x.state(a, 8, 8, 3), 0);
        due("payments", x.count(6), 1);
        x.pay(a, 8, 1);
        due("on the DAY that it came", x.strike(1), true);
        due("it never was", x.state(a, 8, 8, 3), 0);
    }

    private static void seize() {
        SmallCourt x = court("week 1;keep 0;late 2;gaol 4 1;prove oath=1;cost seizure 30");
        int a = ordered(x, 0, 1, 100, 10);
        int b = ordered(x, 0, 1, 100, 10);
        int c = ordered(x, 0, 1, 100, 10);
        x.clock(13);
        due("missed once", x.seize(a, 50), NO_SUM);
        x.clock(14);
        due("seize(-1)", x.seize(-1, 50), NO_SUM);
        due("seize(3)", x.seize(3, 50), NO_SUM);
        due("worth 0", x.seize(a, 0), NO_SUM);
        due("worth 10000", x.seize(a, 10000), NO_SUM);
        due("late", x.seize(a, 50), 80);
        due("once", x.seize(a, 50), NO_SUM);
        due("seized", x.claim(a, 13), 1);
        due("owed without costs", x.claim(a, 11), 100);
        due("on the DAY ahead", x.state(a, 13, 14, 1), 100);
        due("goods are paid", x.state(a, 14, 0, 3), 50);
        x.pay(b, 14, 1);
        due("missed 19 by 10, upwards", x.state(b, 14, 14, 2), 2);
        due("over", x.seize(b, 200), -(201 - 130));
        due("over", x.state(b, 14, 14, 4), 71);
        due("clear", x.state(b, 14, 14, 0), 7);
        x.clock(42);
        due("late", x.state(c, 28, 42, 0), 5);
        due("ripe", x.state(c, 42, 42, 0), 6);
        x.dies(1);
        due("of the dead", x.seize(c, 130), 0);
        due("clear", x.state(c, 42, 42, 0), 7);
        int d = ordered(x, 1, 0, 100, 10);
        due("ordered alone", x.seize(d, 10), NO_SUM);
    }

    private static void gaol() {
        SmallCourt x = court("most 9999;week 1;keep 0;late 2;gaol 4 3;longest 26;prove oath=1;cost seizure 30");
        int a = ordered(x, 0, 1, 100, 10);
        int b = ordered(x, 0, 1, 400, 10);
        int c = ordered(x, 0, 1, 100, 10);
        x.clock(28);
        due("gaol(-1)", x.gaol(-1), -1);
        due("gaol(3)", x.gaol(3), -1);
        due("not seized", x.gaol(a), -1);
        x.seize(a, 34);
        due("missed 6 of 40 less than 4", x.gaol(a), -1);
        x.clock(49);
        due("missed 36 of 70: 4, less than 2 and 4", x.gaol(a), -1);
        x.clock(63);
        due("state", x.state(a, 63, 63, 0), 6);
        due("rest 96 by 12, times 3", x.gaol(a), 24);
        due("served", x.state(a, 63, 63, 0), 8);
        due("rest", x.state(a, 63, 63, 1), 0);
        due("missed", x.state(a, 80, 80, 2), 0);
        due("over", x.state(a, 63, 63, 4), 0);
        due("paid", x.state(a, 63, 63, 3), 34);
        due("the DAY ahead", x.state(a, 62, 63, 0), 5);
        due("the DAY ahead", x.state(a, 62, 63, 1), 96);
        due("again", x.gaol(a), -1);
        due("no PAYMENTS then", x.pay(a, 63, 5), -1);
        x.seize(b, 5);
        due("longest", x.gaol(b), 26);
        x.seize(c, 33);
        x.dies(1);
        due("the dead", x.gaol(c), -1);
        SmallCourt y = court("week 1;keep 0;gaol 4 3;prove oath=1");
        int d = ordered(y, 0, 1, 100, 10);
        y.clock(70);
        y.seize(d, 3);
        due("97 by 12, upwards", y.gaol(d), 27);
    }

    private static void claim() {
        SmallCourt x = court("week 1;keep 0;late 1;prove oath=1;cost seizure 30;cost order 7");
        x.clock(9);
        x.file(0, 1, 55, 3, true, 4);
        int[] filed = {0, 1, 55, 9, 0, 0, -1, -1, -1, -1, 0, 0, 0, 0};
        for (int what = 0; what < 14; what++) {
            due("filed, claim(0, " + what + ")", x.claim(0, what), filed[what]);
        }
        x.summons(0, false);
        x.summons(0, true);
        x.clock(11);
        x.hear(0, true, false, 0);
        x.clock(12);
        x.order(0, 8);
        x.clock(30);
        x.seize(0, 1);
        int[] all = {0, 1, 55, 9, 2, 5, 2, 3, 4, 12, 8, 62, 0, 1};
        for (int what = 0; what < 14; what++) {
            due("seized, claim(0, " + what + ")", x.claim(0, what), all[what]);
        }
        due("claim(0, 14)", x.claim(0, 14), -1);
        due("claim(0, -1)", x.claim(0, -1), -1);
        due("claim(1, 0)", x.claim(1, 0), -1);
        due("claim(-1, 0)", x.claim(-1, 0), -1);
        SmallCourt y = new SmallCourt();
        y.person(0, 0, 1, 0, 0, -1);
        y.person(0, 0, 1, 0, 0, -1);
        y.file(1, 0, 3, 0, false, 0);
        due("no ACT", y.claim(0, 12), -1);
    }

    private static void state() {
        SmallCourt x = court("week 1;keep 0;late 2;gaol 3 1;prove oath=1");
        x.clock(5);
        x.file(0, 1, 50, 3, true, 4);
        x.clock(6);
        x.summons(0, true);
        x.clock(7);
        x.hear(0, true, false, 0);
        x.clock(8);
        x.order(0, 10);
        x.clock(9);
        int[] days = {5, 6, 7, 8, 14, 15, 21, 22, 28, 29, 42, 43, 7999};
        int[] states = {0, 1, 3, 4, 4, 4, 4, 5, 5, 5, 5, 6, 6};
        int[] missed = {0, 0, 0, 0, 0, 1, 1, 2, 2, 3, 4, 5, 5};
        for (int i = 0; i < days.length; i++) {
            due("state on " + days[i], x.state(0, days[i], 9, 0), states[i]);
            due("rest on " + days[i], x.state(0, days[i], 9, 1), days[i] < 8 ? 0 : 50);
            due("missed on " + days[i], x.state(0, days[i], 9, 2), missed[i]);
            due("over on " + days[i], x.state(0, days[i], 9, 4), 0);
        }
        int[][] wrong = {{-1, 9, 9, 0}, {1, 9, 9, 0}, {0, 4, 9, 0}, {0, 9, 4, 0}, {0, 8000, 9, 0}, {0, 9, 8000, 0},
            {0, 9, 9, -1}, {0, 9, 9, 5}};
        for (int[] w : wrong) {
            due("state" + Arrays.toString(w), x.state(w[0], w[1], w[2], w[3]), -1);
        }
        x.file(0, 1, 50, 3, true, 4);
        x.summons(1, true);
        x.hear(1, false, false, 0);
        due("against", x.state(1, 9, 9, 0), 2);
        due("against", x.state(1, 9, 9, 1), 0);
        due("paid", x.state(1, 9, 9, 3), 0);
        SmallCourt y = court("week 1;keep 0;late 4;gaol 2 1;prove oath=1");
        ordered(y, 0, 1, 60, 10);
        due("gaol's n, not late", y.state(0, 21, 0, 0), 4);
        due("late, more than gaol's n", y.state(0, 28, 0, 0), 5);
        due("one less than both", y.state(0, 41, 0, 0), 5);
        due("late and gaol's n", y.state(0, 42, 0, 0), 6);
    }

    private static void known() {
        SmallCourt x = court("week 1;keep 0;late 2;gaol 3 1;prove oath=1");
        int a = ordered(x, 0, 1, 50, 10);
        x.clock(30);
        x.pay(a, 5, 15);
        x.clock(40);
        x.pay(a, 20, 40);
        due("missed on 28, known 29", x.state(a, 28, 29, 2), 4);
        due("missed on 28, known 30", x.state(a, 28, 30, 2), 3);
        due("missed on 28, known 40", x.state(a, 28, 40, 2), 0);
        due("missed on 19, known 40", x.state(a, 19, 40, 2), 1);
        due("clear on 20", x.state(a, 20, 40, 0), 7);
        due("over on 20", x.state(a, 20, 40, 4), 5);
        due("rest on 19", x.state(a, 19, 40, 1), 35);
        due("late on 20, known 39", x.state(a, 21, 39, 0), 5);
        due("known far ahead of it", x.state(a, 40, 0, 0), 6);
        due("known later than NOW", x.state(a, 40, 7999, 0), 7);
    }

    private static void plan() {
        SmallCourt x = court("week 10;keep 50;prove oath=1;most 9999");
        due("plan(-1)", x.plan(-1, 5), -1);
        due("plan(5)", x.plan(5, 5), -1);
        due("unit 0", x.plan(1, 0), -1);
        due("unit 100", x.plan(1, 100), -1);
        due("nothing open", x.plan(1, 5), 0);
        x.anew(1, 9999, 1, 0, 0);
        int a = ordered(x, 0, 1, 100, 10);
        x.anew(1, 59, 1, 0, 0);
        due("MEANS of 9", x.plan(1, 5), -2);
        x.anew(1, 60, 1, 0, 0);
        due("MEANS of 10", x.plan(1, 5), 10);
        x.anew(1, 74, 1, 0, 0);
        due("MEANS of 24", x.plan(1, 5), 5);
        due("unit 7", x.plan(1, 7), 5);
        due("unit 7", x.planned(0, 1), 24);
        due("unit 99", x.plan(1, 99), 10);
        x.anew(1, 9999, 1, 0, 0);
        due("12 units more at most", x.plan(1, 1), 5);
        due("12 units more at most", x.planned(0, 1), 20);
        due("the least of those", x.plan(1, 99), 1);
        due("the least of those", x.planned(0, 1), 109);
        x.pay(a, 0, 93);
        due("the REST is less than week", x.plan(1, 5), 1);
        due("the REST is less than week", x.planned(0, 1), 7);
        for (int i = 1; i < 4; i++) {
            ordered(x, 0, 1, 100, 10);
        }
        due("four", x.plan(1, 10), 1);
        x.dies(3);
        x.person(-20000, 0, 1, 0, 0, -1);
        x.judge(5, true);
        ordered(x, 0, 1, 100, 10);
        due("five", x.plan(1, 10), -1);
        x.pay(a, 0, 7);
        due("four open", x.plan(1, 10), 1);
        act(x, 0, "keep 999");
        x.anew(1, 999 + 39, 1, 0, 0);
        due("by the ACT IN FORCE NOW", x.plan(1, 10), -2);
        x.anew(1, 999 + 40, 1, 0, 0);
        due("by the ACT IN FORCE NOW", x.plan(1, 10), 10);
    }

    private static void planBest() {
        SmallCourt x = court("week 10;keep 0;prove oath=1;most 9999");
        x.anew(1, 9999, 1, 0, 0);
        ordered(x, 0, 1, 100, 10);
        ordered(x, 0, 1, 60, 10);
        x.anew(1, 30, 1, 0, 0);
        // 15 and 10 end in 7 and 6, 20 and 10 in 5 and 6, 15 and 15 in 7 and 4.
        due("the last one first of all", x.plan(1, 5), 6);
        due("first", x.planned(0, 1), 20);
        due("second", x.planned(1, 1), 10);
        x.anew(1, 36, 1, 0, 0);
        // With 36: 20 and 15 end in 5 and 4, 25 and 10 in 4 and 6.
        due("36", x.plan(1, 5), 5);
        due("36", x.planned(0, 1) * 100 + x.planned(1, 1), 2015);
        SmallCourt y = court("week 10;keep 0;prove oath=1;most 9999");
        y.anew(1, 9999, 1, 0, 0);
        ordered(y, 0, 1, 40, 10);
        ordered(y, 0, 1, 40, 10);
        y.anew(1, 33, 1, 0, 0);
        // 10 and 20 end in 4 and 2 as 20 and 10 do: the least of the first one.
        due("as good", y.plan(1, 10), 4);
        due("as good", y.planned(0, 1) * 100 + y.planned(1, 1), 1020);
        y.anew(1, 22, 1, 0, 0);
        due("no better", y.plan(1, 1), 4);
        due("no better", y.planned(0, 1) * 100 + y.planned(1, 1), 1010);
    }

    private static void planned() {
        SmallCourt x = court("week 10;keep 0;prove oath=1;most 9999");
        due("ahead of a plan", x.planned(0, 0), -1);
        ordered(x, 1, 0, 30, 10);
        ordered(x, 0, 1, 30, 10);
        ordered(x, 0, 1, 55, 10);
        x.anew(1, 25, 1, 0, 0);
        due("plan", x.plan(1, 2), 4);
        int[][] told = {{1, 10, 3}, {2, 14, 4}};
        for (int k = 0; k < 2; k++) {
            for (int what = 0; what < 3; what++) {
                due("planned(" + k + ", " + what + ")", x.planned(k, what), told[k][what]);
            }
        }
        due("planned(2, 0)", x.planned(2, 0), -1);
        due("planned(-1, 0)", x.planned(-1, 0), -1);
        due("planned(0, 3)", x.planned(0, 3), -1);
        due("planned(0, -1)", x.planned(0, -1), -1);
        x.plan(1, 0);
        x.anew(1, 0, 1, 0, 0);
        due("too small", x.plan(1, 2), -2);
        due("the latest that told weeks", x.planned(1, 1), 14);
        due("of another", x.plan(0, 2), 1);
        due("the latest", x.planned(0, 0), 0);
        due("the latest", x.planned(1, 0), -1);
        due("nothing open", x.plan(2, 2), 0);
        due("nothing told", x.planned(0, 0), -1);
    }

    /** Eight persons of great earnings, all JUDGES. */
    private static SmallCourt round() {
        SmallCourt x = new SmallCourt();
        act(x, 0, "week 1;keep 0;prove oath=1;most 9999;split 0;late 1");
        for (int i = 0; i < 8; i++) {
            x.person(-20000, 9999, 1, 0, 0, -1);
            x.judge(i, true);
        }
        return x;
    }

    /** The first one owes the second one. */
    private static int owes(SmallCourt x, int q, int p, int sum) {
        return ordered(x, p, q, sum, 1);
    }

    private static void net() {
        SmallCourt x = round();
        due("nothing", x.net(), 0);
        int a = owes(x, 0, 1, 100);
        int b = owes(x, 1, 2, 60);
        due("no ring", x.net(), 0);
        int c = owes(x, 2, 0, 80);
        x.clock(4);
        due("a ring of three", x.net(), 180);
        due("rest", x.state(a, 4, 4, 1), 40);
        due("rest", x.state(b, 4, 4, 0), 7);
        due("rest", x.state(c, 4, 4, 1), 20);
        due("on NOW", x.state(c, 3, 4, 1), 80);
        due("known from NOW", x.state(c, 4, 3, 1), 80);
        due("payments", x.count(6), 3);
        due("no more", x.net(), 0);
        x.strike(1);
        due("struck", x.state(b, 4, 4, 1), 60);
        due("again, the least is 20", x.net(), 60);
        due("two of one", owes(x, 3, 4, 10) * 10 + owes(x, 3, 4, 20), 34);
        owes(x, 4, 3, 15);
        due("two of one", x.net(), 30);
        due("the first as far as it goes", x.state(3, 4, 4, 1), 0);
        due("the second takes what is left", x.state(4, 4, 4, 1), 15);
        due("payments", x.count(6), 9);
        owes(x, 4, 5, 10);
        owes(x, 5, 6, 11);
        owes(x, 6, 3, 12);
        due("a ring of four", x.net(), 40);
        x = round();
        for (int i = 0; i < 5; i++) {
            owes(x, i, (i + 1) % 5, 5);
        }
        due("a ring of five is none", x.net(), 0);
    }

    private static void netOrder() {
        SmallCourt x = round();
        owes(x, 0, 1, 50);
        owes(x, 1, 0, 40);
        owes(x, 2, 3, 45);
        owes(x, 3, 2, 45);
        due("the greatest LEAST first", x.net(), 170);
        due("rings", x.netted(-1), 2);
        due("the first", x.netted(0), 45);
        due("the second", x.netted(1), 40);
        x = round();
        owes(x, 0, 1, 30);
        owes(x, 1, 2, 30);
        owes(x, 2, 0, 30);
        owes(x, 2, 1, 30);
        due("the shorter first", x.net(), 60);
        due("it leaves the others", x.state(0, 0, 0, 1), 30);
        x = round();
        owes(x, 0, 2, 30);
        owes(x, 2, 0, 30);
        owes(x, 0, 1, 30);
        owes(x, 1, 0, 30);
        due("the first by PERSONS", x.net(), 120);
        due("the first by PERSONS: its PAYMENTS come first", x.strike(0) ? x.state(2, 0, 0, 1) : -1, 30);
        x = round();
        owes(x, 0, 1, 30);
        owes(x, 1, 3, 30);
        owes(x, 3, 0, 30);
        owes(x, 1, 2, 30);
        owes(x, 2, 0, 30);
        due("0 1 2 is ahead of 0 1 3", x.net(), 90);
        due("0 1 2 is ahead of 0 1 3", x.state(3, 0, 0, 1), 0);
        due("0 1 3 stays", x.state(1, 0, 0, 1), 30);
        x = round();
        owes(x, 0, 1, 30);
        owes(x, 1, 0, 30);
        x.dies(0);
        due("the dead too", x.net(), 60);
    }

    private static void netPayments() {
        SmallCourt x = round();
        int[][] debts = {{0, 1, 10}, {1, 2, 9999}, {2, 3, 9999}, {3, 0, 9999}};
        for (int[] d : debts) {
            owes(x, d[0], d[1], d[2]);
        }
        x.pay(1, 0, 1);
        x.pay(1, 0, 1);
        int had = 2;
        while (had + 4 <= 600) {
            due("net", x.net(), 40);
            due("strike", x.strike(had), true);
            had += 4;
        }
        due("payments", x.count(6), 598);
        due("a ring that would need more", x.net(), 0);
        due("rings", x.netted(-1), 0);
        due("payments", x.count(6), 598);
        due("nothing of it", x.state(0, 0, 0, 1), 10);
        x.pay(1, 0, 1);
        due("the 600th", x.pay(1, 0, 1), 599);
        due("a 601st", x.pay(1, 0, 1), -1);
        due("payments", x.count(6), 600);
        due("strike(600)", x.strike(600), false);
        due("strike(599)", x.strike(599), true);
    }

    /** A court with that many PAYMENTS and no ring; 7 and 6 owe one another then, 7 by two CLAIMS. */
    private static SmallCourt nearly(int payments, int first, int second, int back) {
        SmallCourt x = round();
        int[][] debts = {{0, 1, 10}, {1, 2, 9999}, {2, 3, 9999}, {3, 0, 9999}};
        for (int[] d : debts) {
            owes(x, d[0], d[1], d[2]);
        }
        for (int i = 0; i < payments % 4; i++) {
            x.pay(1, 0, 1);
        }
        for (int had = payments % 4; had < payments; had += 4) {
            if (had > 3) {
                x.strike(had - 4);
            }
            x.net();
        }
        due("payments", x.count(6), payments);
        owes(x, 7, 6, first);
        owes(x, 7, 6, second);
        owes(x, 6, 7, back);
        return x;
    }

    private static void netToTheLast() {
        SmallCourt x = nearly(597, 10, 20, 15);
        due("three are left, three are needed", x.net(), 30);
        due("payments", x.count(6), 600);
        x = nearly(598, 10, 20, 15);
        due("two are left, three are needed", x.net(), 0);
        due("nothing of it", x.state(4, 0, 0, 1), 10);
        x = nearly(598, 10, 20, 10);
        due("two are left, the second CLAIM needs none", x.net(), 20);
        due("payments", x.count(6), 600);
        x = nearly(599, 10, 20, 10);
        due("one is left", x.net(), 0);
        due("payments", x.count(6), 599);
        x = nearly(596, 0, 0, 0);
        x.strike(592);
        due("four are left, four are needed", x.net(), 40);
        due("payments", x.count(6), 600);
    }

    private static void netted() {
        SmallCourt x = round();
        due("ahead of a net", x.netted(-1), -1);
        due("ahead of a net", x.netted(0), -1);
        owes(x, 0, 1, 7);
        due("a net() that nets nothing", x.net(), 0);
        due("is the latest one", x.netted(-1), 0);
        owes(x, 1, 0, 9);
        x.net();
        due("rings", x.netted(-1), 1);
        due("netted(0)", x.netted(0), 7);
        due("netted(1)", x.netted(1), -1);
        due("netted(-2)", x.netted(-2), -1);
        x.net();
        due("the latest", x.netted(-1), 0);
        due("the latest", x.netted(0), -1);
    }

    private static void list() {
        SmallCourt x = court("prove oath=1");
        for (int i = 0; i < 12; i++) {
            x.file(0, 1, 5, 0, false, 0);
        }
        due("list(-1)", x.list(-1), -1);
        due("list(12)", x.list(12), -1);
        x.summons(0, true);
        due("found", x.list(0), -1);
        x.hear(0, true, false, 0);
        due("heard", x.list(0), -1);
        x.summons(1, false);
        due("not found", x.list(1), 1);
        due("on it", x.list(1), -1);
        for (int i = 2; i < 9; i++) {
            due("one more", x.list(i), i);
        }
        due("a ninth", x.list(9), -1);
        due("on the list", x.count(8), 8);
        x.walk();
        due("empty", x.count(8), 0);
        due("again", x.list(9), 1);
    }

    private static void walk() {
        SmallCourt x = new SmallCourt();
        int[][] doors = {{50, 50}, {50, 60}, {60, 60}, {60, 50}, {55, 55}, {0, 0}};
        for (int[] d : doors) {
            x.person(0, 0, 1, d[0], d[1], -1);
        }
        due("nobody", x.walk(), 0);
        x.file(1, 0, 5, 0, false, 0);
        x.list(0);
        due("at the court", x.walk(), 0);
        for (int i = 1; i < 6; i++) {
            x.file(0, i, 5, 0, false, 0);
        }
        x.list(5);
        due("there and back", x.walk(), 200);
        x.list(3);
        x.list(1);
        x.list(2);
        due("round", x.walk(), 40);
        due("the first by the CLAIMS", x.walked(0) * 100 + x.walked(1) * 10 + x.walked(2), 123);
        x.list(4);
        x.list(3);
        x.list(1);
        x.list(2);
        x.list(5);
        due("round and far, 10 more for what lies within", x.walk(), 250);
        due("the first by the CLAIMS", x.walked(0) * 100 + x.walked(1) * 10 + x.walked(2), 123);
        x.list(2);
        x.anew(2, 0, 1, 50, 51);
        due("by the DOOR as told last", x.walk(), 2);
        x.list(2);
        x.summons(2, true);
        due("on the list still", x.walk(), 2);
        due("a walk is no try", x.claim(3, 4), 0);
    }

    private static void walked() {
        SmallCourt x = court("");
        due("ahead of a walk", x.walked(0), -1);
        x.file(0, 1, 5, 0, false, 0);
        x.file(1, 0, 5, 0, false, 0);
        x.list(1);
        x.list(0);
        due("ahead of a walk", x.walked(0), -1);
        x.walk();
        due("walked(0)", x.walked(0), 0);
        due("walked(1)", x.walked(1), 1);
        due("walked(2)", x.walked(2), -1);
        due("walked(-1)", x.walked(-1), -1);
        x.list(1);
        due("the latest still", x.walked(1), 1);
        x.walk();
        due("the latest", x.walked(0), 1);
        due("the latest", x.walked(1), -1);
        x.walk();
        due("an empty one", x.walked(0), -1);
    }

    private static void habit() {
        SmallCourt x = court("prove oath=1;most 100;split 0;age 0");
        due("habit(-1)", x.habit(-1, 0), -1);
        due("habit(5)", x.habit(5, 0), -1);
        due("no JUDGE ever", x.habit(0, 0), -1);
        due("habit(2, 3)", x.habit(2, 3), -1);
        due("habit(2, -1)", x.habit(2, -1), -1);
        due("n", x.habit(2, 0), 0);
        due("none of none", x.habit(2, 2), 0);
        for (int i = 0; i < 4; i++) {
            x.clock(i);
            proved(x, 0, 1, 5);
        }
        due("4 of 4 are 1 of 16", x.habit(2, 2), 0);
        x.clock(4);
        proved(x, 0, 1, 101);
        due("TOO MUCH is not counted", x.habit(2, 0), 4);
        x.clock(5);
        proved(x, 0, 1, 5);
        due("n", x.habit(2, 0), 5);
        due("m", x.habit(2, 1), 5);
        due("5 of 5 are 1 of 32", x.habit(2, 2), 1);
        x.judge(2, false);
        due("who was one", x.habit(2, 2), 1);
        x.judge(2, true);
        x.clock(6);
        x.file(0, 1, 5, 0, false, 0);
        x.summons(6, true);
        x.hear(6, false, false, 0);
        due("n", x.habit(4, 0), 6);
        due("m", x.habit(4, 1), 5);
        due("5 of 6 are 7 of 64", x.habit(4, 2), 0);
        SmallCourt y = court("prove oath=0;most 100;split 0;age 0");
        for (int i = 0; i < 5; i++) {
            y.clock(i);
            proved(y, 0, 1, 5);
        }
        due("0 of 5", y.habit(3, 1), 0);
        due("soft", y.habit(3, 2), 2);
        y.person(-9000, 0, 1, 0, 0, -1);
        y.judge(5, true);
        due("not on a BENCH yet", y.habit(5, 0), 0);
    }

    private static void habitOfSixty() {
        SmallCourt x = court("prove oath=1;most 100;split 0;age 0");
        for (int i = 0; i < 100; i++) {
            x.clock(i);
            x.file(0, 1, 1, 0, false, 0);
            x.summons(i, true);
        }
        int next = 0;
        // In the order HEARD, not by numbers: 23 LOST, then 37 PROVED of the last 60.
        for (int i = 99; i >= 0; i--) {
            x.hear(i, next % 100 >= 63 || next < 40, false, 0);
            next++;
        }
        due("n", x.habit(2, 0), 60);
        due("m", x.habit(2, 1), 37);
        // 37 or more of 60 are 0.0462 of all, 36 or more 0.0775.
        due("37 of 60", x.habit(2, 2), 1);
        due("36 of 60", habitOf(60, 36), 0);
        due("23 of 60", habitOf(60, 23), 2);
        // 0.0481, 0.0519 and 0.0494 of all: as near to a twentieth as it comes.
        due("13 of 18", habitOf(18, 13), 1);
        due("5 of 18", habitOf(18, 5), 2);
        due("29 of 46", habitOf(46, 29), 0);
        due("17 of 46", habitOf(46, 17), 0);
        due("20 of 30", habitOf(30, 20), 1);
    }

    private static int habitOf(int n, int m) {
        SmallCourt x = court("prove oath=1;most 100;split 0;age 0");
        for (int i = 0; i < n; i++) {
            x.clock(i);
            x.file(0, 1, 1, 0, false, 0);
            x.summons(i, true);
            x.hear(i, i < m, false, 0);
        }
        return x.habit(2, 2);
    }

    private static void other() {
        SmallCourt x = new SmallCourt();
        x.clock(100);
        act(x, 0, "age 0;most 9999;prove oath=1;cost summons 1;cost hearing 10;cost order 100");
        act(x, 500, "age 9;most 60;split 5;prove own>0 or note=1;cost summons 2;cost hearing 30;cost order 500");
        x.person(-9000, 100, 1, 0, 0, -1);
        x.person(-3200, 100, 1, 0, 0, -1);
        for (int i = 2; i < 5; i++) {
            x.person(-9000, 0, 1, 0, 0, -1);
            x.judge(i, true);
        }
        due("nothing heard", x.other(0, 5), 0);
        due("nothing heard", x.other(0, 6), 0);
        proved(x, 0, 1, 50);
        x.file(0, 1, 50, 100, true, 0);
        x.summons(1, false);
        x.summons(1, true);
        x.hear(1, false, false, 0);
        x.file(1, 0, 50, 100, true, 0);
        x.summons(2, true);
        x.hear(2, false, true, 0);
        x.file(1, 0, 70, 100, true, 0);
        x.summons(3, true);
        x.line(0, 1, 0, 0, 50);
        due("heard: by the first", x.other(0, 1), 0);
        due("heard: by the first", x.other(0, 4), 2);
        due("heard: by the first", x.other(0, 5), 1);
        due("costs", x.other(0, 6), 4 * 1 + 3 * 10 + 100);
        // By the second one of 3200 DAYS is MINOR, of 3300 not; 50 and 50 are SPLIT, 50 and 70, too.
        due("another: MINOR", x.other(1, 1), 1);
        due("another: TOO MUCH", x.other(1, 2), 0);
        due("another: SPLIT", x.other(1, 3), 1 + 1);
        due("another: costs", x.other(1, 6), 4 * 2 + 3 * 30);
        due("without: MINOR", x.other(-1, 1), 2);
        due("without: LOST", x.other(-1, 4), 1);
        due("without: costs", x.other(-1, 6), 0);
        act(x, 600, "age 0;most 9999;prove own>0");
        due("own as it was HEARD", x.other(2, 5), 0);
        x.hear(3, false, true, 0);
        due("heard now", x.other(2, 4), 4);
        due("TOO MUCH", x.other(1, 2), 1);
        due("what 0", x.other(0, 0), -1);
        due("what 7", x.other(0, 7), -1);
        due("other(3)", x.other(3, 1), -1);
        due("other(-2)", x.other(-2, 1), -1);
        due("nothing changed", x.claim(0, 5) * 10 + x.claim(1, 5), 54);
    }

    private static void count() {
        SmallCourt x = court("week 1;keep 0;prove oath=1");
        x.clock(3);
        x.line(0, 1, 0, 0, 5);
        x.line(0, 1, 0, 0, 5);
        int a = ordered(x, 0, 1, 50, 5);
        x.pay(a, 3, 1);
        x.feed(1, 2, 3, 4, 5);
        x.list(x.file(0, 1, 5, 0, false, 0));
        x.dies(4);
        int[] all = {3, 1, 5, 2, 2, 2, 1, 20, 1};
        for (int what = 0; what < 9; what++) {
            due("count(" + what + ")", x.count(what), all[what]);
        }
        due("count(9)", x.count(9), -1);
        due("count(-1)", x.count(-1), -1);
    }
}
