import java.math.BigInteger;

/** The boundary cases of promises 23 to 32 and of chapters IV and V, sentence by sentence. */
public final class SearchBoundaryTest {
    private static final String PLAIN = "week 10;keep 0;age 0;most 9999;split 0;prove oath=1";

    public static void main(String[] args) {
        plan();
        fourOpen();
        meansTooSmall();
        nothingOpen();
        openOnes();
        units();
        lesserOfWeekAndRest();
        meansOfPlans();
        best();
        planned();
        plannedLatest();
        net();
        rings();
        whichRing();
        eachAsFarAsItsRest();
        ringsOfAHundred();
        ringOfMoreThanNine();
        sixHundred();
        netted();
        list();
        eight();
        walk();
        farWalks();
        firstByTheClaims();
        walked();
        habit();
        twentieth();
        lastSixty();
        other();
        otherAtItsBounds();
        otherCosts();
        otherSplit();
        otherAsHeard();
        count();
        Trial.end();
    }

    private static void plan() {
        Trial.says("23: NONE, and nothing happens: none such, or no such unit");
        Trial.edges(Trial::busy, "person", (x, n) -> x.plan(n, 3), 0, 7, -1);
        Trial.edges(Trial::busy, "unit", (x, n) -> x.plan(1, n), 1, 99, -1);
        Trial.edges(Trial::busy, "unit, nothing open", (x, n) -> x.plan(0, n), 1, 99, -1);
        Trial.due("of the dead", Trial.busy().plan(6, 2), 1 + (35 - 1) / 29);
    }

    /** So many CLAIMS of 100 by tens against 1, who can pay 9999 a week. */
    private static SmallCourt open(int many) {
        SmallCourt x = Trial.court(PLAIN);
        for (int i = 0; i < many; i++) {
            Trial.ordered(x, 0, 1, 100, 10);
        }
        return x;
    }

    private static SmallCourt fiveOpen() {
        SmallCourt x = open(4);
        x.plan(1, 1);
        Trial.ordered(x, 0, 1, 100, 10);
        return x;
    }

    private static void fourOpen() {
        Trial.says("23: NONE, and nothing happens: more than 4 open");
        for (int many = 1; many < 5; many++) {
            SmallCourt x = open(many);
            Trial.due(many + " open", x.plan(1, 10), 1);
            Trial.due("the last of them", x.planned(many - 1, 0), many - 1);
            Trial.due("its w", x.planned(many - 1, 1), 100);
            Trial.due("none behind", x.planned(many, 0), -1);
        }
        Trial.refused(SearchBoundaryTest::fiveOpen, "5 open", x -> x.plan(1, 10), -1);
        SmallCourt x = fiveOpen();
        Trial.due("5 open", x.plan(1, 1), -1);
        x.pay(2, 0, 100);
        Trial.due("4 open again", x.plan(1, 10), 1);
        Trial.due("by numbers", x.planned(2, 0) * 10 + x.planned(3, 0), 34);
        x = open(20);
        Trial.due("20 open", x.plan(1, 1), -1);
        x.anew(1, 0, 1, 0, 0);
        Trial.due("5 open ahead of MEANS that are too small", fiveOpenWithoutMeans().plan(1, 1), -1);
    }

    private static SmallCourt fiveOpenWithoutMeans() {
        SmallCourt x = fiveOpen();
        x.anew(1, 0, 1, 0, 0);
        return x;
    }

    private static SmallCourt twoOpenByMeans(int means) {
        SmallCourt x = open(2);
        x.plan(1, 1);
        x.anew(1, means, 1, 0, 0);
        return x;
    }

    private static void meansTooSmall() {
        Trial.says("23: -2: MEANS are too small; all together not more than MEANS");
        for (int means : new int[] {0, 1, 19}) {
            Trial.refused(() -> twoOpenByMeans(means), "MEANS of " + means, x -> x.plan(1, 1), -2);
        }
        Trial.due("MEANS of 20", twoOpenByMeans(20).plan(1, 1), 10);
        Trial.due("MEANS of 21", twoOpenByMeans(21).plan(1, 1), 10);
        Trial.due("MEANS of 24", twoOpenByMeans(24).plan(1, 1), 9);
        Trial.due("MEANS of 23", twoOpenByMeans(23).plan(1, 1), 10);
        SmallCourt x = twoOpenByMeans(19);
        x.pay(0, 0, 91);
        Trial.due("a REST of 9 and week: 19", x.plan(1, 1), 10);
        x = twoOpenByMeans(100);
        Trial.act(x, 0, "keep 100");
        Trial.due("MEANS of 0", x.plan(1, 1), -2);
        x.anew(1, 9999, 20, 0, 0);
        Trial.act(x, 0, "keep 999");
        Trial.due("MEANS below 0", x.plan(1, 1), -2);
    }

    private static void nothingOpen() {
        Trial.says("23: weeks till the last one is paid (0: nothing open)");
        SmallCourt x = Trial.court(PLAIN);
        Trial.due("no CLAIM", x.plan(1, 1), 0);
        x.anew(1, 0, 20, 0, 0);
        Trial.act(x, 0, "keep 999");
        Trial.due("MEANS below 0", x.plan(1, 99), 0);
        Trial.due("nothing planned", x.planned(0, 0), -1);
        Trial.due("the plaintiff", Trial.busy().plan(0, 1), 0);
    }

    private static void openOnes() {
        Trial.says("IV: open (ORDERED, LATE or RIPE as KNOWN NOW), by numbers");
        SmallCourt x = Trial.busy();
        Trial.due("1 owes by 5, 6, 8 and 13", x.plan(1, 99), 1);
        int[] open = {5, 6, 8, 13};
        for (int k = 0; k < 4; k++) {
            Trial.due("CLAIM", x.planned(k, 0), open[k]);
        }
        x.strike(0);
        Trial.due("4 is open again", x.plan(1, 99), -1);
        x.pay(4, 30, 35);
        Trial.due("by a REST of 1", x.plan(1, 99), -1);
        x.pay(4, 30, 1);
        x.gaol(6);
        Trial.due("6 is SERVED", x.plan(1, 99), 1);
        Trial.due("the third is 13", x.planned(2, 0), 13);
        Trial.due("no fourth", x.planned(3, 0), -1);
    }

    private static int weeksBy(int rest, int unit) {
        SmallCourt x = Trial.court(PLAIN);
        Trial.ordered(x, 0, 1, rest, 10);
        return x.plan(1, unit) * 10000 + x.planned(0, 1);
    }

    private static void units() {
        Trial.says("IV: 0 to 12 units (1 to 99) more");
        Trial.due("12 of 1", weeksBy(22, 1), 10022);
        Trial.due("a 13th would be one week", weeksBy(23, 1), 20000 + 12);
        Trial.due("12 of 99", weeksBy(10 + 12 * 99, 99), 10000 + 1198);
        Trial.due("a 13th would be one week", weeksBy(11 + 12 * 99, 99), 20000 + 10 + 6 * 99);
        Trial.due("none of them", weeksBy(10, 99), 10010);
        Trial.due("one of them", weeksBy(11, 99), 10109);
        Trial.due("the greatest REST", weeksBy(9999, 99), 9 * 10000 + 1198);
        Trial.due("the greatest REST", weeksBy(9999, 1), 455 * 10000 + 22);
    }

    private static void lesserOfWeekAndRest() {
        Trial.says("IV: w: the lesser of week and its REST");
        SmallCourt x = Trial.court(PLAIN);
        Trial.ordered(x, 0, 1, 100, 10);
        for (int rest : new int[] {11, 10, 9, 1}) {
            x.pay(0, 0, x.state(0, 0, 0, 1) - rest);
            x.anew(1, Math.min(10, rest), 1, 0, 0);
            Trial.due("a REST of " + rest, x.plan(1, 99), rest == 11 ? 2 : 1);
            Trial.due("its w", x.planned(0, 1), Math.min(10, rest));
            Trial.due("its weeks", x.planned(0, 2), rest == 11 ? 2 : 1);
            x.anew(1, Math.min(10, rest) - 1, 1, 0, 0);
            Trial.due("less MEANS than that", x.plan(1, 99), -2);
        }
        x.pay(0, 0, 1);
        Trial.due("a REST of 0", x.plan(1, 99), 0);
        for (int week : new int[] {1, 999}) {
            x = Trial.court("week " + week + ";keep 0;most 9999;prove oath=1");
            Trial.ordered(x, 0, 1, 999, 999);
            x.anew(1, week, 1, 0, 0);
            Trial.due("week " + week, x.plan(1, 1), 999 / week);
        }
    }

    private static void meansOfPlans() {
        Trial.says("IV: MEANS by the ACT IN FORCE NOW; week of each by its own");
        SmallCourt x = Trial.court(PLAIN);
        Trial.act(x, 10, "keep 50;week 30;age 0;most 9999;split 0;prove oath=1");
        Trial.ordered(x, 0, 1, 60, 10);
        x.clock(9);
        x.anew(1, 10, 1, 0, 0);
        Trial.due("the DAY ahead of the ACT", x.plan(1, 1), 6);
        x.clock(10);
        Trial.due("on its DAY", x.plan(1, 1), -2);
        x.anew(1, 60, 1, 0, 0);
        Trial.due("keep 50, week 10 still", x.plan(1, 1), 6);
        x.anew(1, 9999, 1, 0, 0);
        Trial.ordered(x, 0, 1, 60, 30);
        x.anew(1, 90, 1, 0, 0);
        Trial.due("10 and 30", x.plan(1, 1), 6);
        Trial.due("10 and 30", x.planned(0, 1) * 100 + x.planned(1, 1), 1030);
        x.anew(1, 89, 1, 0, 0);
        Trial.due("MEANS of 39", x.plan(1, 1), -2);
    }

    private static SmallCourt owing(int means, int... sums) {
        SmallCourt x = Trial.court(PLAIN);
        for (int sum : sums) {
            Trial.ordered(x, 0, 1, sum, 10);
        }
        x.anew(1, means, 1, 0, 0);
        return x;
    }

    private static void best() {
        Trial.says("IV: the fewest weeks till the last one is paid (REST by w, upwards)");
        SmallCourt x = owing(20, 100);
        Trial.due("20 by 20 exactly", x.plan(1, 10), 5);
        x = owing(20, 101);
        Trial.due("one more", x.plan(1, 10), 6);
        x = owing(40, 100, 60);
        // 10 and 30 end in 10 and 2, 20 and 20 in 5 and 3, 30 and 10 in 4 and 6.
        Trial.due("the last one", x.plan(1, 10), 5);
        Trial.due("20 and 20", x.planned(0, 1) * 100 + x.planned(1, 1), 2020);
        Trial.says("IV: then the fewest weeks of all together");
        x = owing(30, 40, 40, 10);
        // The last one ends in 4 or the second one does: whoever of two has 10 more ends in 2, the third in 1.
        Trial.due("as many", x.plan(1, 10), 4);
        x = owing(40, 40, 40, 10);
        Trial.due("10 more", x.plan(1, 10), 4);
        Trial.due("weeks of all", x.planned(0, 2) + x.planned(1, 2) + x.planned(2, 2), 7);
        SmallCourt y = owing(21, 11, 100);
        Trial.due("1 more, which ends the first one sooner alone", y.plan(1, 1), 10);
        Trial.due("11 and 10", y.planned(0, 1) * 100 + y.planned(1, 1), 1110);
        Trial.says("IV: then the least of the first one, and so on");
        Trial.due("10, 20, 10", x.planned(0, 1) * 10000 + x.planned(1, 1) * 100 + x.planned(2, 1), 102010);
        x = owing(9999, 40, 40, 40, 40);
        Trial.due("all in a week", x.plan(1, 6), 1);
        for (int k = 0; k < 4; k++) {
            Trial.due("10 and 5 units", x.planned(k, 1), 40);
        }
        x = owing(43, 20, 20, 20, 20);
        Trial.due("3 more, which pays none sooner", x.plan(1, 1), 2);
        for (int k = 0; k < 4; k++) {
            Trial.due("the least", x.planned(k, 1), 10);
        }
        x = owing(59, 20, 20, 20, 20);
        x.plan(1, 10);
        Trial.due("10 more, the last of them has it", x.planned(0, 1) + x.planned(1, 1) + x.planned(2, 1), 30);
        Trial.due("10 more, the last of them has it", x.planned(3, 1) * 10 + x.planned(3, 2), 201);
    }

    private static void planned() {
        Trial.says("24: NONE without it, or for another what");
        for (int what = 0; what < 3; what++) {
            int each = what;
            Trial.edges(Trial::busy, "k", (x, n) -> x.planned(n, each), 0, 3, -1);
            Trial.edges(() -> planOf(1), "k of one", (x, n) -> x.planned(n, each), 0, 0, -1);
            Trial.beyond(() -> open(2), "ahead of a plan()", (x, n) -> x.planned(n, each), 0, 1, -1);
            Trial.due("ahead of a plan()", open(2).planned(0, what), -1);
        }
        for (int k = 0; k < 4; k++) {
            int each = k;
            Trial.edges(Trial::busy, "what", (x, n) -> x.planned(each, n), 0, 2, -1);
        }
    }

    private static SmallCourt planOf(int many) {
        SmallCourt x = open(many);
        x.plan(1, 5);
        return x;
    }

    private static void plannedLatest() {
        Trial.says("24: of the latest plan() that told weeks");
        SmallCourt x = planOf(2);
        x.plan(1, 0);
        x.plan(-1, 5);
        Trial.due("behind one that told NONE", x.planned(1, 0), 1);
        x.anew(1, 0, 1, 0, 0);
        x.plan(1, 5);
        Trial.due("behind one that told -2", x.planned(1, 0), 1);
        Trial.due("as told then", x.planned(1, 1), 50);
        x.pay(1, 0, 100);
        Trial.due("as told then", x.planned(1, 2), 2);
        x.anew(1, 9999, 1, 0, 0);
        x.plan(1, 5);
        Trial.due("of one CLAIM now", x.planned(1, 0), -1);
        Trial.due("of one CLAIM now", x.planned(0, 0), 0);
        x.plan(0, 5);
        Trial.due("one that told 0 weeks", x.planned(0, 0), -1);
    }

    /** Eight persons of great earnings, all JUDGES; each array: who owes whom how much. */
    private static SmallCourt debts(int[]... debts) {
        SmallCourt x = new SmallCourt();
        Trial.act(x, 0, "week 1;keep 0;age 0;most 9999;split 0;late 1;gaol 1 1;prove oath=1");
        for (int i = 0; i < 8; i++) {
            x.person(-20000, 9999, 1, 0, 0, -1);
            x.judge(i, true);
        }
        for (int[] d : debts) {
            Trial.ordered(x, d[1], d[0], d[2], 1);
        }
        return x;
    }

    private static int[] owes(int q, int p, int sum) {
        return new int[] {q, p, sum};
    }

    private static void noRing(String what, SmallCourt x) {
        int had = x.count(6);
        Trial.due(what, x.net(), 0);
        Trial.due(what + ": rings", x.netted(-1), 0);
        Trial.due(what + ": the first", x.netted(0), -1);
        Trial.due(what + ": PAYMENTS", x.count(6), had);
    }

    private static void net() {
        Trial.says("25: all that was taken off (no ring)");
        noRing("a new object", new SmallCourt());
        noRing("no CLAIM", debts());
        noRing("one debt", debts(owes(0, 1, 5)));
        noRing("two of one", debts(owes(0, 1, 5), owes(0, 1, 5)));
        noRing("a chain", debts(owes(0, 1, 5), owes(1, 2, 5), owes(2, 3, 5)));
        noRing("both to one", debts(owes(0, 1, 5), owes(2, 1, 5)));
        SmallCourt x = debts(owes(0, 1, 5));
        Trial.proved(x, 0, 1, 5);
        noRing("PROVED is not ORDERED", x);
        x.order(1, 1);
        x.pay(1, 0, 5);
        noRing("CLEAR", x);
        x.pay(0, 0, 9);
        x.strike(0);
        noRing("OVER", x);
        x = debts(owes(0, 1, 50), owes(1, 0, 50));
        x.clock(70);
        x.seize(1, 1);
        x.gaol(1);
        noRing("SERVED", x);
        Trial.says("25: all that was taken off (what is LATE, RIPE, SEIZED or of the dead)");
        x = debts(owes(0, 1, 50), owes(1, 0, 50));
        x.clock(70);
        x.seize(1, 1);
        x.dies(0);
        x.dies(1);
        Trial.due("RIPE, SEIZED, of the dead", x.net(), 98);
    }

    private static void rings() {
        Trial.says("IV: RINGS of two to four PERSONS");
        for (int many = 2; many < 8; many++) {
            int[][] round = new int[many][];
            for (int i = 0; i < many; i++) {
                round[i] = owes(i, (i + 1) % many, 5 + i);
            }
            SmallCourt x = debts(round);
            Trial.due("of " + many, x.net(), many < 5 ? 5 * many : 0);
            Trial.due("rings", x.netted(-1), many < 5 ? 1 : 0);
            Trial.due("PAYMENTS", x.count(6), many < 5 ? many : 0);
            Trial.due("the LEAST is off", x.state(0, 0, 0, 1), many < 5 ? 0 : 5);
            Trial.due("of the last", x.state(many - 1, 0, 0, 1), many < 5 ? many - 1 : 4 + many);
        }
        SmallCourt all = new SmallCourt();
        Trial.act(all, 0, "week 1;keep 0;age 0;prove oath=1");
        for (int i = 0; i < 40; i++) {
            all.person(-20000, 9999, 1, 0, 0, -1);
            all.judge(i, i < 5);
        }
        int[][] pairs = {{39, 38}, {38, 39}, {0, 39}, {39, 0}, {37, 0}, {0, 38}};
        for (int[] pair : pairs) {
            Trial.ordered(all, pair[0], pair[1], 7, 1);
        }
        Trial.due("of the first and the last of 40", all.net(), 28);
        Trial.due("rings", all.netted(-1), 2);
        Trial.due("others", all.state(4, 0, 0, 3) + all.state(5, 0, 0, 3), 0);
        Trial.due("a LEAST of 1", debts(owes(6, 7, 1), owes(7, 6, 9999)).net(), 2);
        Trial.due("of the greatest sums", debts(owes(6, 7, 9999), owes(7, 6, 9999)).net(), 19998);
    }

    private static void whichRing() {
        Trial.says("IV: of all of them the one with the greatest LEAST sum");
        SmallCourt x = debts(owes(0, 1, 10), owes(1, 0, 10), owes(4, 5, 11), owes(5, 6, 12), owes(6, 7, 12), owes(7, 4, 12));
        Trial.due("both", x.net(), 64);
        Trial.due("of four, one more", x.netted(0), 11);
        Trial.due("of two", x.netted(1), 10);
        Trial.says("IV: of several the shorter");
        x = debts(owes(0, 1, 10), owes(1, 2, 10), owes(2, 0, 10), owes(1, 0, 10));
        Trial.due("of two alone", x.net(), 20);
        x = debts(owes(0, 1, 10), owes(1, 2, 10), owes(2, 3, 10), owes(3, 0, 10), owes(2, 0, 10));
        Trial.due("of three alone", x.net(), 30);
        Trial.says("IV: then the first by PERSONS (it begins with its least one)");
        x = debts(owes(7, 6, 10), owes(6, 7, 10), owes(2, 1, 10), owes(1, 2, 10));
        Trial.due("both", x.net(), 40);
        Trial.due("1 and 2 first: from 1", paidFirst(x), 3);
        x = debts(owes(0, 2, 10), owes(2, 1, 10), owes(1, 0, 10), owes(0, 1, 10), owes(1, 2, 10), owes(2, 0, 10));
        Trial.due("rings of two first", x.net(), 60);
        Trial.due("0 and 1 first: from 0", paidFirst(x), 3);
        x = debts(owes(0, 2, 10), owes(2, 3, 10), owes(3, 0, 10), owes(0, 1, 10), owes(1, 3, 10));
        Trial.due("one of two rings of three", x.net(), 30);
        Trial.due("0 1 3 ahead of 0 2 3", x.state(3, 0, 0, 0) * 10 + x.state(0, 0, 0, 0), 74);
        x = debts(owes(0, 1, 10), owes(1, 2, 10), owes(2, 0, 10), owes(0, 2, 10), owes(2, 3, 10), owes(3, 0, 10));
        Trial.due("0 2 ahead of 0 1 2 and of 0 2 3, then 0 1 2 3", x.net(), 20 + 40);
        Trial.due("from 0, to 2", paidFirst(x), 3);
    }

    /** The CLAIM of PAYMENT 0, by what is open again once it is STRUCK. */
    private static int paidFirst(SmallCourt x) {
        int[] had = new int[x.count(5)];
        for (int k = 0; k < had.length; k++) {
            had[k] = x.state(k, 0, 0, 1);
        }
        x.strike(0);
        for (int k = 0; k < had.length; k++) {
            if (x.state(k, 0, 0, 1) > had[k]) {
                return k;
            }
        }
        return -1;
    }

    private static void eachAsFarAsItsRest() {
        Trial.says("IV: on the CLAIMS of that pair by numbers, each as far as its REST goes");
        int[] left = {7, 10, 11, 29, 30};
        for (int least : left) {
            SmallCourt x = debts(owes(0, 1, 10), owes(2, 1, 99), owes(0, 1, 20), owes(1, 0, least), owes(0, 3, 99));
            Trial.due("a LEAST of " + least, x.net(), 2 * least);
            Trial.due("the first", x.state(0, 0, 0, 3), Math.min(10, least));
            Trial.due("the second", x.state(2, 0, 0, 3), least - Math.min(10, least));
            Trial.due("the other way", x.state(3, 0, 0, 3), least);
            Trial.due("PAYMENTS", x.count(6), least > 10 ? 3 : 2);
            Trial.due("others", x.state(1, 0, 0, 3) + x.state(4, 0, 0, 3), 0);
        }
        SmallCourt y = debts(owes(0, 1, 5), owes(0, 1, 1), owes(0, 1, 9), owes(1, 0, 5), owes(1, 0, 1), owes(1, 0, 9));
        y.pay(0, 0, 5);
        y.pay(3, 0, 4);
        Trial.due("CLEAR ones and a REST of 1", y.net(), 20);
        Trial.due("a CLEAR one takes no PAYMENT", y.count(6), 2 + 5);
        Trial.due("OVER", y.state(0, 0, 0, 4), 0);
        for (int k = 0; k < 5; k++) {
            Trial.due("CLEAR", y.state(k, 0, 0, 0), 7);
        }
        Trial.due("the last has what is left", y.state(5, 0, 0, 1), 1);
        y = debts(owes(0, 1, 5), owes(0, 1, 9), owes(1, 0, 6), owes(1, 2, 7), owes(2, 0, 7));
        Trial.due("a ring of three, then one of two with the same pair", y.net(), 3 * 7 + 2 * 6);
        Trial.due("the first goes by its REST then", y.state(0, 0, 0, 3), 5);
        Trial.due("the second takes what is left", y.state(1, 0, 0, 3), 8);
        Trial.due("PAYMENTS", y.count(6), 4 + 2);
        Trial.says("IV: as PAYMENTS on NOW");
        SmallCourt x = debts(owes(0, 1, 10), owes(1, 0, 10));
        x.clock(9);
        Trial.due("net", x.net(), 20);
        for (int d = 8; d < 11; d++) {
            for (int k = 8; k < 11; k++) {
                Trial.due("PAID on " + d + " as KNOWN on " + k, x.state(0, d, k, 3), d > 8 && k > 8 ? 10 : 0);
            }
        }
        Trial.due("the next PAYMENT", x.pay(0, 9, 1), 2);
    }

    private static void ringsOfAHundred() {
        Trial.says("IV: again, as long as there is a ring (of 100 CLAIMS)");
        SmallCourt x = new SmallCourt();
        Trial.act(x, 0, "week 1;keep 0;age 0;prove oath=1");
        for (int i = 0; i < 14; i++) {
            x.person(-9000, 9999, 1, 0, 0, -1);
        }
        for (int i = 11; i < 14; i++) {
            x.judge(i, true);
        }
        int many = 0;
        for (int a = 0; a < 11; a++) {
            for (int b = a + 1; b < 11 && many < 50; b++) {
                Trial.ordered(x, b, a, 10 + many, 1);
                Trial.ordered(x, a, b, 100 + many, 1);
                many++;
            }
        }
        Trial.due("CLAIMS", x.count(5), 100);
        Trial.due("all of 10 to 59, twice", x.net(), (10 + 59) * 50);
        Trial.due("rings", x.netted(-1), 50);
        Trial.due("the first", x.netted(0), 59);
        Trial.due("the last", x.netted(49), 10);
        Trial.due("none behind", x.netted(50), -1);
        Trial.due("PAYMENTS", x.count(6), 100);
    }

    private static void ringOfMoreThanNine() {
        Trial.says("IV: a LEAST above 9999 is taken off, too");
        SmallCourt x = debts();
        int[][] each = {owes(0, 1, 9999), owes(1, 0, 9999), owes(0, 1, 9999), owes(1, 0, 9998)};
        for (int i = 0; i < 4; i++) {
            x.clock(i);
            Trial.ordered(x, each[i][1], each[i][0], each[i][2], 1);
        }
        Trial.due("a pair's REST together", x.net(), 2 * 19997);
        Trial.due("the LEAST", x.netted(0), 19997);
        Trial.due("the REST", x.state(2, 3, 3, 1), 1);
    }

    private static SmallCourt nearlyFull(int payments, int... back) {
        SmallCourt x = ClaimBoundaryTest.payments(payments);
        Trial.ordered(x, 5, 6, 30, 1);
        for (int sum : back) {
            Trial.ordered(x, 6, 5, sum, 1);
        }
        return x;
    }

    private static void sixHundred() {
        Trial.says("IV: PAYMENTS count among the 600; a ring that would need more stops it");
        SmallCourt x = nearlyFull(598, 30);
        Trial.due("two are left, two are needed", x.net(), 60);
        Trial.due("PAYMENTS", x.count(6), 600);
        x = nearlyFull(599, 30);
        Trial.due("one is left", x.net(), 0);
        Trial.due("PAYMENTS", x.count(6), 599);
        Trial.due("rings", x.netted(-1), 0);
        x = nearlyFull(600, 30);
        Trial.due("none is left", x.net(), 0);
        Trial.due("PAYMENTS", x.count(6), 600);
        x = nearlyFull(597, 10, 20);
        Trial.due("three are left, three are needed", x.net(), 60);
        x = nearlyFull(598, 10, 20);
        Trial.due("two are left, three are needed", x.net(), 0);
        Trial.due("nothing of it", x.state(4, 0, 0, 3) + x.state(5, 0, 0, 3), 0);
        x = nearlyFull(598, 30, 20);
        Trial.due("two are left, the second CLAIM needs none", x.net(), 60);
        x = nearlyFull(598, 1, 30);
        x.pay(5, 0, 1);
        Trial.due("one is left", x.net(), 0);
        x = nearlyFull(597, 1, 30);
        x.pay(5, 0, 1);
        Trial.due("two are left, the CLEAR one ahead needs none", x.net(), 60);
        Trial.due("PAYMENTS", x.count(6), 600);
        x = nearlyFull(597, 30, 20);
        x.pay(5, 0, 30);
        Trial.due("two are left, the CLEAR one ahead needs none", x.net(), 40);
        x = nearlyFull(598, 29, 1);
        Trial.due("two are left, three are needed, the last of 1", x.net(), 0);
        x = nearlyFull(597, 29, 1);
        Trial.due("three are left, three are needed, the last of 1", x.net(), 60);
        x = ClaimBoundaryTest.payments(599);
        Trial.due("of the first CLAIM: one is left, four are needed", x.net(), 0);
        x = ClaimBoundaryTest.payments(597);
        Trial.due("three are left, four are needed", x.net(), 0);
        x = ClaimBoundaryTest.payments(596);
        Trial.due("four are left, four are needed", x.net(), 40);
        Trial.says("IV: stops it, even if a lesser ring would need no more than are left");
        x = nearlyFull(598, 10, 20);
        Trial.ordered(x, 4, 6, 5, 1);
        Trial.ordered(x, 6, 4, 5, 1);
        Trial.due("stopped", x.net(), 0);
        Trial.says("IV: what was netted ahead of that stays");
        x = nearlyFull(597, 30);
        Trial.ordered(x, 4, 6, 5, 1);
        Trial.ordered(x, 6, 4, 5, 1);
        Trial.due("the first alone", x.net(), 60);
        Trial.due("rings", x.netted(-1), 1);
        Trial.due("PAYMENTS", x.count(6), 599);
    }

    private static void netted() {
        Trial.says("26: NONE without it");
        Trial.edges(Trial::busy, "k", SmallCourt::netted, -1, 0, -1);
        Trial.edges(SearchBoundaryTest::twoRings, "k", SmallCourt::netted, -1, 1, -1);
        for (int k : new int[] {-2, -1, 0, 1, 99, 100, Integer.MIN_VALUE, Integer.MAX_VALUE}) {
            Trial.refused(SearchBoundaryTest::twoRingsAhead, "ahead of every net(), " + k, x -> x.netted(k), -1);
        }
        SmallCourt x = twoRings();
        Trial.due("rings", x.netted(-1), 2);
        Trial.due("again, nothing", x.net(), 0);
        Trial.due("rings of the latest", x.netted(-1), 0);
        for (int k : new int[] {-2, 0, 1}) {
            Trial.due("none of the latest", x.netted(k), -1);
        }
    }

    private static SmallCourt twoRingsAhead() {
        return debts(owes(0, 1, 5), owes(1, 0, 6), owes(2, 3, 7), owes(3, 2, 8));
    }

    private static SmallCourt twoRings() {
        SmallCourt x = twoRingsAhead();
        x.net();
        return x;
    }

    private static SmallCourt filed(int many) {
        SmallCourt x = Trial.court(PLAIN);
        for (int i = 0; i < many; i++) {
            x.file(0, 1, 5, 0, false, 0);
        }
        return x;
    }

    private static SmallCourt listed(int many) {
        SmallCourt x = filed(10);
        for (int i = 0; i < many; i++) {
            x.list(9 - i);
        }
        return x;
    }

    private static void list() {
        Trial.says("27: how many it has; NONE: none such, found, HEARD, on it");
        Trial.edges(() -> filed(3), "list", SmallCourt::list, 0, 2, -1);
        for (int k = 0; k < 16; k++) {
            int claim = k;
            Trial.refused(Trial::busy, "found, HEARD or on it " + k, x -> x.list(claim), -1);
        }
        SmallCourt x = Trial.busy();
        x.walk();
        Trial.due("not on it any more", x.list(0), 1);
        Trial.due("against the dead", x.list(9), 2);
        x = filed(2);
        x.summons(1, false);
        Trial.due("summoned, not found", x.list(1), 1);
        x.summons(1, true);
        Trial.due("found, on it", x.list(1), -1);
        Trial.due("on the list", x.count(8), 1);
    }

    private static void eight() {
        Trial.says("27: NONE: 8");
        SmallCourt x = filed(10);
        for (int i = 0; i < 8; i++) {
            Trial.due("list", x.list(9 - i), i + 1);
            Trial.due("on the list", x.count(8), i + 1);
        }
        Trial.due("a ninth", x.list(1), -1);
        Trial.due("a ninth", x.list(0), -1);
        Trial.due("on the list", x.count(8), 8);
        Trial.refused(() -> listed(8), "a ninth", y -> y.list(1), -1);
        Trial.refused(() -> listed(8), "the first again", y -> y.list(9), -1);
        Trial.refused(() -> listed(8), "the last again", y -> y.list(2), -1);
        Trial.due("an eighth", listed(7).list(2), 8);
        x.walk();
        for (int i = 0; i < 8; i++) {
            Trial.due("of the walk", x.walked(i), i + 2);
        }
    }

    /** Each person's DOOR, one CLAIM by the court's first person against each of them, and all on the list. */
    private static SmallCourt doors(int[]... doors) {
        SmallCourt x = new SmallCourt();
        x.person(0, 0, 1, 50, 50, -1);
        for (int[] d : doors) {
            x.file(0, x.person(0, 0, 1, d[0], d[1], -1), 5, 0, false, 0);
        }
        for (int turn = 0; turn < 2; turn++) {
            for (int i = 1 - turn; i < doors.length; i += 2) {
                x.list(i);
            }
        }
        return x;
    }

    private static int[] at(int x, int y) {
        return new int[] {x, y};
    }

    private static void walk() {
        Trial.says("28: its steps, and the list is empty then");
        SmallCourt x = listed(0);
        Trial.due("an empty list", x.walk(), 0);
        Trial.due("an empty list again", x.walk(), 0);
        x = listed(8);
        Trial.due("of eight at the court", x.walk(), 0);
        Trial.due("on the list", x.count(8), 0);
        Trial.due("an empty one behind it", x.walk(), 0);
        Trial.due("nothing walked then", x.walked(0), -1);
        Trial.due("listed anew", x.list(9), 1);
        Trial.due("no try of SUMMONS", x.claim(9, 4), 0);
        Trial.due("not found", x.state(9, 0, 0, 0), 0);
    }

    private static void farWalks() {
        Trial.says("V: from the court (50, 50) to the DOORS and back: the shortest (steps along x and y)");
        Trial.due("at the court", doors(at(50, 50)).walk(), 0);
        Trial.due("one step", doors(at(50, 51)).walk(), 2);
        Trial.due("one step", doors(at(49, 50)).walk(), 2);
        Trial.due("the first corner", doors(at(0, 0)).walk(), 200);
        Trial.due("the last corner", doors(at(99, 99)).walk(), 196);
        Trial.due("along x", doors(at(0, 50)).walk(), 100);
        Trial.due("along y", doors(at(50, 99)).walk(), 98);
        Trial.due("along both", doors(at(60, 60), at(70, 75)).walk(), 20 + 25 + 45);
        Trial.due("across", doors(at(40, 60), at(60, 40)).walk(), 20 + 40 + 20);
        Trial.due("two ends", doors(at(0, 50), at(99, 50)).walk(), 198);
        Trial.due("four corners", doors(at(0, 0), at(99, 99), at(0, 99), at(99, 0)).walk(), 98 + 3 * 99 + 99);
        Trial.due("eight", doors(at(0, 0), at(99, 99), at(0, 99), at(99, 0), at(0, 50), at(50, 0), at(99, 50),
            at(50, 99)).walk(), 49 + 4 * 99 + 49);
        Trial.due("eight of one DOOR", doors(at(0, 0), at(0, 0), at(0, 0), at(0, 0), at(0, 0), at(0, 0), at(0, 0),
            at(0, 0)).walk(), 200);
    }

    private static long order(SmallCourt x) {
        long order = 0;
        x.walk();
        for (int k = 0; x.walked(k) >= 0; k++) {
            order = order * 10 + x.walked(k) + 1;
        }
        return order;
    }

    private static void firstByTheClaims() {
        Trial.says("V: of several the first by the CLAIMS in the order of the walk");
        Trial.due("there and back", order(doors(at(60, 50), at(70, 50))), 12);
        Trial.due("there and back", order(doors(at(70, 50), at(60, 50))), 12);
        Trial.due("round", order(doors(at(60, 50), at(60, 60), at(50, 60))), 123);
        Trial.due("round", order(doors(at(60, 60), at(60, 50), at(50, 60))), 213);
        Trial.due("round, the other way", order(doors(at(50, 60), at(60, 60), at(60, 50))), 123);
        Trial.due("of one DOOR", order(doors(at(1, 1), at(1, 1), at(1, 1), at(1, 1), at(1, 1), at(1, 1), at(1, 1),
            at(1, 1))), 12345678);
        Trial.due("along a line, all there and back", order(doors(at(58, 50), at(57, 50), at(56, 50), at(55, 50),
            at(54, 50), at(53, 50), at(52, 50), at(51, 50))), 12345678);
        Trial.due("on both sides", order(doors(at(51, 50), at(49, 50), at(52, 50), at(48, 50))), 1324);
    }

    private static SmallCourt walkOf(int many) {
        SmallCourt x = listed(many);
        x.walk();
        return x;
    }

    private static void walked() {
        Trial.says("29: the k-th CLAIM of the latest walk(); NONE");
        Trial.edges(() -> walkOf(8), "k of eight", SmallCourt::walked, 0, 7, -1);
        Trial.edges(() -> walkOf(1), "k of one", SmallCourt::walked, 0, 0, -1);
        Trial.edges(Trial::busy, "k", SmallCourt::walked, 0, 0, -1);
        for (int k : new int[] {-1, 0, 1, 7, 8, Integer.MIN_VALUE, Integer.MAX_VALUE}) {
            Trial.refused(() -> listed(8), "ahead of a walk(), " + k, x -> x.walked(k), -1);
            Trial.refused(() -> walkOf(0), "of an empty one, " + k, x -> x.walked(k), -1);
        }
        SmallCourt x = walkOf(8);
        x.list(0);
        Trial.due("the latest still", x.walked(7), 9);
        x.walk();
        Trial.due("the latest", x.walked(0), 0);
        Trial.due("of one now", x.walked(1), -1);
        x.walk();
        Trial.due("of none now", x.walked(0), -1);
    }

    private static void habit() {
        Trial.says("30: NONE without him (a JUDGE, or one who was)");
        for (int what = 0; what < 3; what++) {
            int each = what;
            Trial.beyond(Trial::busy, "person", (x, n) -> x.habit(n, each), 0, 7, -1);
            for (int k : new int[] {0, 1, 6}) {
                Trial.refused(Trial::busy, "never a JUDGE " + k, x -> x.habit(k, each), -1);
            }
            for (int k : new int[] {2, 3, 4, 5, 7}) {
                Trial.due("a JUDGE " + k, Trial.busy().habit(k, what) >= 0, true);
            }
        }
        Trial.edges(Trial::busy, "what", (x, n) -> x.habit(2, n), 0, 2, -1);
        SmallCourt x = Trial.busy();
        x.judge(0, true);
        Trial.due("a JUDGE now, n", x.habit(0, 0), 0);
        Trial.due("a JUDGE now, m", x.habit(0, 1), 0);
        Trial.due("of none: none", x.habit(0, 2), 0);
        x.judge(0, false);
        Trial.due("one who was", x.habit(0, 0), 0);
        int had = x.habit(5, 0);
        x.judge(5, false);
        Trial.due("one who was, DEAD", x.habit(5, 0), had);
    }

    /** So many HEARD on one BENCH, the first ones of them PROVED. */
    private static SmallCourt heard(int proved, int lost) {
        SmallCourt x = Trial.court(PLAIN);
        for (int i = 0; i < proved + lost; i++) {
            x.hear(Trial.found(x, 0, 1, 1), i < proved, false, 0);
        }
        return x;
    }

    private static boolean isTold(int n, int atLeast) {
        BigInteger ways = BigInteger.ZERO;
        BigInteger choose = BigInteger.ONE;
        for (int i = 0; i <= n; i++) {
            ways = i >= atLeast ? ways.add(choose) : ways;
            choose = choose.multiply(BigInteger.valueOf(n - i)).divide(BigInteger.valueOf(i + 1));
        }
        return ways.multiply(BigInteger.valueOf(20)).compareTo(BigInteger.TWO.pow(n)) <= 0;
    }

    private static void twentieth() {
        Trial.says("V: TOLD hard if the ways .. are at most a twentieth of all 2^n, soft if that is so of n - m; else none");
        int[] least = {-1, -1, -1, -1, -1, 5, 6, 7, 7, 8, 9, 9, 10, 10, 11, 12, 12, 13, 13, 14, 15};
        for (int n = 0; n <= 60; n++) {
            int m = 0;
            while (m <= n && !isTold(n, m)) {
                m++;
            }
            if (n < least.length) {
                Trial.due("the least m of " + n + " by hand", m > n ? -1 : m, least[n]);
            }
            Trial.due(m - 1 + " of " + n, heard(m - 1, n - m + 1).habit(3, 2), 0);
            Trial.due(n - m + 1 + " of " + n, heard(n - m + 1, m - 1).habit(3, 2), 0);
            if (m <= n) {
                Trial.due(m + " of " + n, heard(m, n - m).habit(3, 2), 1);
                Trial.due(n - m + " of " + n, heard(n - m, m).habit(3, 2), 2);
                Trial.due(n + " of " + n, heard(n, 0).habit(3, 2), 1);
                Trial.due("0 of " + n, heard(0, n).habit(3, 2), 2);
            }
        }
    }

    private static void lastSixty() {
        Trial.says("V: of the last 60 CLAIMS with him on THE BENCH that were LOST or PROVED");
        for (int many : new int[] {59, 60, 61, 62, 98}) {
            SmallCourt x = heard(2, many - 2);
            Trial.due("n of " + many, x.habit(2, 0), Math.min(60, many));
            Trial.due("m of " + many, x.habit(2, 1), Math.max(0, Math.min(2, 62 - many)));
        }
        Trial.says("V: others of his CLAIMS are none of the 60");
        SmallCourt x = Trial.court("week 10;keep 0;age 0;most 9;split 0;prove oath=1");
        for (int i = 0; i < 63; i++) {
            x.clock(i);
            x.hear(Trial.found(x, 0, 1, i < 60 ? 1 : 10), i == 0, false, 0);
        }
        Trial.due("n", x.habit(2, 0), 60);
        Trial.due("m", x.habit(2, 1), 1);
        x.clock(63);
        x.hear(Trial.found(x, 0, 1, 1), false, false, 0);
        Trial.due("n, one more LOST", x.habit(2, 0), 60);
        Trial.due("m, the first is out", x.habit(2, 1), 0);
        Trial.says("V: in the order HEARD");
        for (int proved : new int[] {0, 60}) {
            x = Trial.court(PLAIN);
            for (int i = 0; i < 61; i++) {
                Trial.found(x, 0, 1, 1);
            }
            for (int i = 60; i >= 0; i--) {
                x.hear(i, i == proved, false, 0);
            }
            Trial.due("60, HEARD first, is out, 0 is not: " + proved, x.habit(2, 1), proved == 0 ? 1 : 0);
        }
        Trial.says("V: with him on THE BENCH");
        x = Trial.court(PLAIN);
        x.person(-20000, 0, 1, 0, 0, -1);
        x.judge(5, true);
        x.hear(Trial.found(x, 0, 1, 1), true, false, 0);
        x.hear(Trial.found(x, 0, 1, 1), true, false, 3);
        for (int judge = 2; judge < 6; judge++) {
            Trial.due("n of " + judge, x.habit(judge, 0), judge == 2 || judge == 5 ? 1 : 2);
        }
    }

    private static void other() {
        Trial.says("31: NONE without it, or for another what");
        for (int what = 1; what < 7; what++) {
            int each = what;
            Trial.edges(Trial::busy, "act", (x, n) -> x.other(n, each), -1, 1, -1);
            Trial.edges(SmallCourt::new, "act", (x, n) -> x.other(n, each), -1, -1, -1);
        }
        for (int k = -1; k < 2; k++) {
            int each = k;
            Trial.edges(Trial::busy, "what", (x, n) -> x.other(each, n), 1, 6, -1);
        }
        Trial.says("31: for all CLAIMS that were HEARD (none, one, 100 of them)");
        SmallCourt x = Trial.court(PLAIN + ";cost summons 1;cost hearing 20;cost order 300");
        Trial.found(x, 0, 1, 5);
        for (int what = 1; what < 7; what++) {
            Trial.due("none HEARD, what " + what, x.other(0, what), 0);
        }
        x.hear(0, true, false, 0);
        Trial.due("one PROVED", x.other(0, 5), 1);
        Trial.due("its costs, ORDERED or not", x.other(0, 6), 321);
        Trial.due("by none: PROVED, without costs", x.other(-1, 5) * 1000 + x.other(-1, 6), 1000);
        for (int i = 1; i < 100; i++) {
            x.summons(i - 1, true);
            x.hear(Trial.found(x, 0, 1, 5), i < 99, false, 0);
        }
        Trial.due("PROVED", x.other(0, 5), 99);
        Trial.due("LOST", x.other(0, 4), 1);
        Trial.due("costs of all", x.other(0, 6), 100 * 21 + 99 * 300);
    }

    private static void otherAtItsBounds() {
        Trial.says("V: how many would be JUDGED 1 to 5 by it (at the bounds of age, most)");
        SmallCourt x = Trial.court(PLAIN);
        x.person(-365, 0, 1, 0, 0, -1);
        x.file(0, 5, 100, 0, false, 0);
        x.summons(0, true);
        Trial.due("by its own", x.hear(0, true, true, 0), 5);
        String[] texts = {"age 1;prove oath=1;most 100", "age 2;prove oath=1;most 99", "age 1;prove oath=1;most 99",
            "age 1;prove denied=0;most 100", "most 100;age 1;prove oath=1 and denied=1"};
        int[] due = {5, 1, 2, 4, 5};
        for (int act = 0; act < texts.length; act++) {
            Trial.act(x, 100, texts[act]);
            for (int what = 1; what < 6; what++) {
                Trial.due(texts[act] + ": " + what, x.other(act + 1, what), due[act] == what ? 1 : 0);
            }
        }
        Trial.due("all as without: MINOR", x.other(-1, 1), 1);
        Trial.due("it stays JUDGED as it was", x.claim(0, 5), 5);
    }

    private static void otherCosts() {
        Trial.says("V: the costs of all (SUMMONS, hearing of each; order of those PROVED by it)");
        SmallCourt x = Trial.court("prove oath=1;split 0;cost summons 1;cost hearing 20;cost order 300");
        Trial.act(x, 7999, "prove denied=1;cost summons 2;cost hearing 30;cost order 700");
        Trial.act(x, 7999, "prove oath=1 or denied=1;cost summons 999;cost hearing 999;cost order 999");
        Trial.act(x, 7999, "most 1;cost summons 5");
        x.file(0, 1, 5, 0, false, 0);
        x.summons(0, false);
        x.summons(0, false);
        x.summons(0, true);
        x.hear(0, true, false, 0);
        Trial.due("PROVED by its own", x.other(0, 6), 323);
        Trial.due("LOST by another", x.other(1, 6), 36);
        Trial.due("by the greatest costs", x.other(2, 6), 5 * 999);
        Trial.due("TOO MUCH by another", x.other(3, 6), 15);
        Trial.found(x, 0, 1, 5);
        Trial.due("found, not HEARD", x.other(1, 6), 36);
        x.hear(1, false, true, 0);
        Trial.due("LOST by its own", x.other(0, 6), 323 + 21);
        Trial.due("PROVED by another", x.other(1, 6), 36 + 732);
        x.order(0, 12);
        Trial.due("ORDERED or not", x.other(1, 6), 36 + 732);
    }

    private static void otherSplit() {
        Trial.says("V: SPLIT by CLAIMS FILED by now");
        SmallCourt x = Trial.court(PLAIN);
        Trial.act(x, 7999, "age 0;most 100;split 10;prove oath=1");
        x.clock(20);
        x.hear(Trial.found(x, 0, 1, 60), true, false, 0);
        Trial.due("alone", x.other(1, 3), 0);
        x.clock(31);
        Trial.found(x, 0, 1, 40);
        Trial.due("most together", x.other(1, 3), 0);
        x.file(0, 1, 1, 0, false, 0);
        Trial.due("one more, FILED only", x.other(1, 3), 1);
        x.hear(1, true, false, 0);
        Trial.due("the second: 41 of 11 DAYS behind the first", x.other(1, 3), 1);
        Trial.due("the second is PROVED", x.other(1, 5), 1);
        x.clock(41);
        Trial.act(x, 7999, "age 0;most 100;split 11;prove oath=1");
        Trial.due("11 DAYS ahead, by another ACT", x.other(2, 3), 2);
        x.file(0, 1, 60, 0, false, 0);
        Trial.due("101 by 10 DAYS", x.other(1, 3), 2);
    }

    private static void otherAsHeard() {
        Trial.says("V: oath, denied, own, other, alike as they were HEARD");
        SmallCourt x = Trial.court(PLAIN);
        Trial.act(x, 7999, "age 0;prove own=0 and other=0 and alike=0 and oath=1 and denied=1 and note=1 and witness=9");
        x.clock(5);
        x.file(0, 1, 5, 0, true, 9);
        x.summons(0, true);
        x.hear(0, true, true, 0);
        Trial.due("HEARD", x.other(1, 5), 1);
        x.line(0, 1, 5, 0, 7);
        x.line(1, 0, 5, 1, 7);
        Trial.due("LINES told later, of the DAY of FILING", x.other(1, 5), 1);
        x.file(0, 1, 5, 0, true, 9);
        x.summons(1, true);
        x.hear(1, true, true, 0);
        Trial.due("the next one by LINES", x.other(1, 5) * 10 + x.other(1, 4), 11);
    }

    private static void count() {
        Trial.says("32: NONE for others");
        Trial.edges(Trial::busy, "what", SmallCourt::count, 0, 8, -1);
        Trial.edges(SmallCourt::new, "what", SmallCourt::count, 0, 8, -1);
    }
}
