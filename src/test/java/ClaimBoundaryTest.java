import java.util.ArrayList;
import java.util.List;

/** The boundary cases of promises 13 to 22 and of chapter III (CLAIMS), sentence by sentence. */
public final class ClaimBoundaryTest {
    private static final int LAST = 15;
    private static final String PLAIN = "week 1;keep 0;age 0;most 9999;split 0;prove oath=1";

    public static void main(String[] args) {
        busyStates();
        file();
        hundred();
        summons();
        hear();
        threeJudges();
        draw();
        drawOfThirtyEight();
        minor();
        tooMuch();
        split();
        splitDays();
        theFirstThatHolds();
        proved();
        books();
        order();
        tooLittle();
        means();
        meansOfOpenOnes();
        pay();
        sixHundred();
        strike();
        seize();
        seizeWhenLate();
        restOrOver();
        gaol();
        ripe();
        days();
        death();
        claim();
        state();
        statesByDays();
        weeks();
        missed();
        restAndOver();
        known();
        served();
        great();
        Trial.end();
    }

    private static void busyStates() {
        Trial.says("(the busy court of these tests)");
        SmallCourt x = Trial.busy();
        int[] states = {0, 1, 2, 3, 7, 6, 6, 8, 5, 0, 1, 3, 6, 4, 7, 4};
        for (int k = 0; k <= LAST; k++) {
            Trial.due("STATE of " + k, x.state(k, 30, 30, 0), states[k]);
        }
        int[] counts = {30, 2, 8, 4, 2, 16, 5, 6, 2};
        for (int what = 0; what < 9; what++) {
            Trial.due("count(" + what + ")", x.count(what), counts[what]);
        }
        Trial.due("rings", x.netted(-1), 1);
        Trial.due("planned", x.planned(3, 0), 13);
        Trial.due("walked", x.walked(0), 0);
    }

    private static void file() {
        Trial.says("13: its number; NONE: something is not as told");
        Trial.edges(Trial::busy, "p", (x, n) -> x.file(n, n == 0 ? 1 : 0, 5, 5, true, 5), 0, 7, -1);
        Trial.edges(Trial::busy, "q", (x, n) -> x.file(n == 0 ? 1 : 0, n, 5, 5, true, 5), 0, 7, -1);
        Trial.edges(Trial::busy, "sum", (x, n) -> x.file(0, 1, n, 5, true, 5), 1, 9999, -1);
        Trial.edges(Trial::busy, "from", (x, n) -> x.file(0, 1, 5, n, true, 5), 0, 30, -1);
        Trial.edges(Trial::busy, "witnesses", (x, n) -> x.file(0, 1, 5, 5, true, n), 0, 9, -1);
        Trial.refused(Trial::busy, "against himself", x -> x.file(0, 0, 5, 5, true, 5), -1);
        Trial.refused(Trial::busy, "the last against himself", x -> x.file(7, 7, 5, 5, true, 5), -1);
        Trial.says("13: NONE: the defendant is DEAD");
        Trial.refused(Trial::busy, "against the dead", x -> x.file(0, 6, 5, 5, true, 5), -1);
        Trial.refused(Trial::busy, "against a dead JUDGE", x -> x.file(0, 5, 5, 5, true, 5), -1);
        Trial.refused(Trial::busy, "the dead against the dead", x -> x.file(5, 6, 5, 5, true, 5), -1);
        Trial.due("by the dead", Trial.busy().file(6, 0, 5, 5, true, 5), LAST + 1);
        Trial.says("III: owed from a DAY (not behind NOW)");
        SmallCourt x = Trial.court(PLAIN);
        Trial.due("DAY 0 is NOW", x.file(0, 1, 1, 0, false, 0), 0);
        Trial.due("behind NOW", x.file(0, 1, 1, 1, false, 0), -1);
        x.clock(7999);
        Trial.due("the last DAY", x.file(0, 1, 9999, 7999, true, 9), 1);
        Trial.due("no DAY", x.file(0, 1, 9999, 8000, true, 9), -1);
        Trial.due("CLAIMS", x.count(5), 2);
    }

    private static SmallCourt fullOfClaims() {
        SmallCourt x = Trial.court(PLAIN);
        for (int i = 0; i < 100; i++) {
            x.file(0, 1, 5, 0, false, 0);
        }
        return x;
    }

    private static void hundred() {
        Trial.says("13: NONE: there are 100");
        SmallCourt x = Trial.court(PLAIN);
        for (int i = 0; i < 100; i++) {
            Trial.due("CLAIM", x.file(0, 1, 5, 0, false, 0), i);
            Trial.due("CLAIMS", x.count(5), i + 1);
        }
        Trial.due("a 101st", x.file(0, 1, 5, 0, false, 0), -1);
        Trial.due("a 101st of others", x.file(2, 3, 5, 0, false, 0), -1);
        Trial.refused(ClaimBoundaryTest::fullOfClaims, "a 101st", y -> y.file(0, 1, 5, 0, false, 0), -1);
        Trial.says("13: the last one is a CLAIM like others");
        Trial.due("list(99)", x.list(99), 1);
        Trial.due("summons(99)", x.summons(99, true), 1);
        Trial.due("summons(100)", x.summons(100, true), -1);
        Trial.due("hear(99)", x.hear(99, true, false, 0), 5);
        Trial.due("order(99)", x.order(99, 5), 5);
        Trial.due("pay(99)", x.pay(99, 0, 5), 0);
        Trial.due("state(99)", x.state(99, 0, 0, 0), 7);
        Trial.due("claim(99)", x.claim(99, 2), 5);
        Trial.due("claim(100)", x.claim(100, 2), -1);
    }

    private static SmallCourt threeFiled() {
        SmallCourt x = Trial.court(PLAIN + ";late 2;gaol 2 1");
        for (int i = 0; i < 3; i++) {
            x.file(0, 1, 5, 0, false, 0);
        }
        return x;
    }

    private static SmallCourt threeFound() {
        SmallCourt x = threeFiled();
        for (int i = 0; i < 3; i++) {
            x.summons(i, true);
        }
        return x;
    }

    private static SmallCourt threeProved() {
        SmallCourt x = threeFound();
        for (int i = 0; i < 3; i++) {
            x.hear(i, true, false, 0);
        }
        return x;
    }

    private static SmallCourt threeOrdered() {
        SmallCourt x = threeProved();
        for (int i = 0; i < 3; i++) {
            x.order(i, 1);
        }
        return x;
    }

    private static SmallCourt threeRipe() {
        SmallCourt x = threeOrdered();
        x.clock(70);
        return x;
    }

    private static SmallCourt threeSeized() {
        SmallCourt x = threeRipe();
        for (int i = 0; i < 3; i++) {
            x.seize(i, 1);
        }
        return x;
    }

    private static void summons() {
        Trial.says("14: how many it has had; NONE, and nothing happens: none such, found, HEARD");
        Trial.edges(ClaimBoundaryTest::threeFiled, "summons", (x, n) -> x.summons(n, true), 0, 2, -1);
        Trial.edges(ClaimBoundaryTest::threeFiled, "summons", (x, n) -> x.summons(n, false), 0, 2, -1);
        for (int k = 1; k <= LAST; k++) {
            if (k != 9) {
                int claim = k;
                Trial.refused(Trial::busy, "found, " + k, x -> x.summons(claim, true), -1);
                Trial.refused(Trial::busy, "not found again, " + k, x -> x.summons(claim, false), -1);
            }
        }
        Trial.due("against the dead", Trial.busy().summons(9, true), 2);
        SmallCourt x = Trial.court(PLAIN + ";cost summons 999;cost hearing 999;cost order 999");
        x.file(0, 1, 9999, 0, false, 0);
        for (int i = 1; i < 400; i++) {
            Trial.due("a try", x.summons(0, false), i);
        }
        Trial.due("found", x.summons(0, true), 400);
        Trial.due("none more", x.summons(0, true), -1);
        Trial.due("tries", x.claim(0, 4), 400);
        x.hear(0, true, false, 0);
        Trial.due("each costs", x.order(0, 9999), 9999 + 402 * 999);
    }

    private static void hear() {
        Trial.says("15: JUDGED 1 to 5; NONE, and nothing happens: none such, not found, HEARD already, the defendant DEAD");
        Trial.edges(ClaimBoundaryTest::threeFound, "hear", (x, n) -> x.hear(n, true, false, 0), 0, 2, -1);
        for (int k = 0; k <= LAST; k++) {
            if (k != 1) {
                int claim = k;
                Trial.refused(Trial::busy, "hear " + k, x -> x.hear(claim, true, false, 0), -1);
            }
        }
        Trial.due("found", Trial.busy().hear(1, true, false, 0), 5);
        Trial.says("15: NONE, and nothing happens: draw below 0");
        Trial.refused(Trial::busy, "-1", x -> x.hear(1, true, false, -1), -1);
        Trial.refused(Trial::busy, "the least number", x -> x.hear(1, true, false, Integer.MIN_VALUE), -1);
        Trial.due("the greatest number", Trial.busy().hear(1, true, false, Integer.MAX_VALUE), 5);
        SmallCourt x = Trial.busy();
        x.dies(0);
        Trial.due("the plaintiff is dead", x.hear(1, true, false, 0), 5);
    }

    private static SmallCourt busyWithJudges(int many) {
        SmallCourt x = Trial.busy();
        int[] living = {7, 4, 3, 2};
        for (int i = 0; i < 4 - many; i++) {
            x.judge(living[i], false);
        }
        return x;
    }

    private static void threeJudges() {
        Trial.says("15: NONE, and nothing happens: fewer than three JUDGES");
        Trial.refused(() -> busyWithJudges(0), "none", x -> x.hear(1, true, false, 0), -1);
        Trial.refused(() -> busyWithJudges(1), "one", x -> x.hear(1, true, false, 0), -1);
        Trial.refused(() -> busyWithJudges(2), "two, and one DEAD", x -> x.hear(1, true, false, 0), -1);
        Trial.due("three", busyWithJudges(3).hear(1, true, false, 0), 5);
        SmallCourt x = busyWithJudges(2);
        x.judge(0, true);
        x.judge(1, true);
        Trial.due("two, p and q", x.hear(1, true, false, 0), -1);
        x.judge(7, true);
        Trial.due("three, p and q", x.hear(1, true, false, 0), 5);
        for (int what = 6; what < 9; what++) {
            Trial.due("THE BENCH", x.claim(1, what), new int[] {2, 3, 7}[what - 6]);
        }
        x = busyWithJudges(3);
        x.dies(3);
        Trial.due("one of three dies", x.hear(1, true, false, 0), -1);
    }

    private static int benchOf(SmallCourt x, int claim) {
        return x.claim(claim, 6) * 10000 + x.claim(claim, 7) * 100 + x.claim(claim, 8);
    }

    private static int drawn(int judges, int draw) {
        SmallCourt x = new SmallCourt();
        Trial.act(x, 0, PLAIN);
        for (int i = 0; i < judges + 2; i++) {
            x.person(-20000, 5, 1, 0, 0, -1);
            x.judge(i, true);
        }
        x.hear(Trial.found(x, 0, 1, 5), true, false, draw);
        return benchOf(x, 0);
    }

    private static void draw() {
        Trial.says("III: of all sets of three, in their order, the one with the place draw % how many sets");
        for (int draw : new int[] {0, 1, 2, 1000, Integer.MAX_VALUE}) {
            Trial.due("of three", drawn(3, draw), 20304);
        }
        int[] four = {20304, 20305, 20405, 30405};
        for (int draw = 0; draw < 12; draw++) {
            Trial.due("of four by " + draw, drawn(4, draw), four[draw % 4]);
        }
        SmallCourt x = Trial.court(PLAIN);
        x.judge(0, true);
        x.judge(1, true);
        Trial.due("PERSONS 0 and 1 sit, too", x.hear(Trial.found(x, 2, 3, 5), true, false, 0), 5);
        Trial.due("0, 1 and 4", benchOf(x, 0), 104);
        Trial.due("of four by the greatest number", drawn(4, Integer.MAX_VALUE), four[3]);
        Trial.due("of four by the greatest number but one", drawn(4, Integer.MAX_VALUE - 1), four[2]);
    }

    private static void drawOfThirtyEight() {
        Trial.says("III: of all sets of three, the least first, then the second, then the third");
        List<Integer> sets = new ArrayList<>();
        for (int a = 2; a < 40; a++) {
            for (int b = a + 1; b < 40; b++) {
                for (int c = b + 1; c < 40; c++) {
                    sets.add(a * 10000 + b * 100 + c);
                }
            }
        }
        Trial.due("sets", sets.size(), 8436);
        int[] draws = {0, 1, 35, 36, 70, 71, 665, 666, 667, 1295, 1296, 8434, 8435, 8436, 8437, 16871, 16872,
            Integer.MAX_VALUE};
        for (int draw : draws) {
            Trial.due("of 38 by " + draw, drawn(38, draw), sets.get(draw % 8436));
        }
    }

    private static int judgedOf(String text, int born, int now, int from) {
        SmallCourt x = new SmallCourt();
        Trial.act(x, 0, text);
        x.clock(now);
        x.person(-20000, 0, 1, 0, 0, -1);
        x.person(born, 0, 1, 0, 0, -1);
        for (int i = 2; i < 5; i++) {
            x.person(-20000, 0, 1, 0, 0, -1);
            x.judge(i, true);
        }
        x.file(0, 1, 5, from, false, 0);
        x.summons(0, true);
        return x.hear(0, true, false, 0);
    }

    private static void minor() {
        Trial.says("III: 365 * age DAYS behind the birth or more is old enough");
        for (int age : new int[] {1, 2, 20, 21, 39, 40}) {
            int born = 7000 - 365 * age;
            Trial.due("of " + age + ", one DAY less", judgedOf("age " + age, born + 1, 7999, 7000), 1);
            Trial.due("of " + age, judgedOf("age " + age, born, 7999, 7000), 5);
            Trial.due("of " + age + ", one DAY more", judgedOf("age " + age, born - 1, 7999, 7000), 5);
        }
        Trial.due("without: 21, one DAY less", judgedOf("", -7664, 5, 0), 1);
        Trial.due("without: 21", judgedOf("", -7665, 5, 0), 5);
        Trial.due("the DAY from which it is owed, not NOW", judgedOf("age 1", 0, 365, 364), 1);
        Trial.due("the DAY from which it is owed", judgedOf("age 1", 0, 365, 365), 5);
        Trial.due("age 0 on the birth's DAY", judgedOf("age 0", 7, 10, 7), 5);
        Trial.due("age 0 ahead of the birth", judgedOf("age 0", 7, 10, 6), 1);
        Trial.due("the last birth, the last DAY", judgedOf("age 0", 7999, 7999, 7999), 5);
        Trial.due("the last birth, the last DAY but one", judgedOf("age 0", 7999, 7999, 7998), 1);
        Trial.due("the last birth, age 40", judgedOf("age 40", 7999, 7999, 7999), 1);
        Trial.due("the first birth, age 40, DAY 0", judgedOf("age 40", -30000, 0, 0), 5);
    }

    private static int judgedOf(SmallCourt x, int claim) {
        x.summons(claim, true);
        return x.hear(claim, true, false, 0);
    }

    private static void tooMuch() {
        Trial.says("III: 2 TOO MUCH: the sum is above most");
        for (int most : new int[] {1, 480, 9998}) {
            SmallCourt x = Trial.court("most " + most + ";prove oath=1;split 0");
            Trial.due("one more than " + most, judgedOf(x, x.file(0, 1, most + 1, 0, false, 0)), 2);
            x.clock(1);
            Trial.due("most itself", judgedOf(x, x.file(0, 1, most, 0, false, 0)), 5);
        }
        SmallCourt x = Trial.court("");
        Trial.due("without: 480", judgedOf(x, x.file(0, 1, 480, 0, false, 0)), 5);
        Trial.due("without: 481", judgedOf(x, x.file(2, 1, 481, 0, false, 0)), -1);
        x.person(-20000, 0, 1, 0, 0, -1);
        x.judge(5, true);
        Trial.due("without: 481", x.hear(1, true, false, 0), 2);
        x = Trial.court("most 9999");
        Trial.due("nothing is above 9999", judgedOf(x, x.file(0, 1, 9999, 0, false, 0)), 5);
    }

    private static void split() {
        Trial.says("III: 3 SPLIT: with it, above most together (if they are more than one)");
        SmallCourt x = Trial.court("most 100;prove oath=1");
        x.file(0, 1, 100, 0, false, 0);
        Trial.due("it alone, most itself", judgedOf(x, 0), 5);
        x = Trial.court("most 100;prove oath=1");
        x.file(0, 1, 60, 0, false, 0);
        x.file(0, 1, 40, 0, false, 0);
        Trial.due("most together", judgedOf(x, 0), 5);
        x.file(0, 1, 1, 0, false, 0);
        Trial.due("one more", judgedOf(x, 1), 3);
        Trial.due("the least of them", judgedOf(x, 2), 3);
        Trial.due("JUDGED stays", x.claim(0, 5), 5);
        x = Trial.court("most 100;prove oath=1");
        x.file(0, 1, 60, 0, false, 0);
        x.file(1, 0, 100, 0, false, 0);
        x.file(2, 1, 100, 0, false, 0);
        x.file(0, 2, 100, 0, false, 0);
        Trial.due("of p against q alone", judgedOf(x, 0), 5);
        x = Trial.court("most 9999;prove oath=1");
        for (int i = 0; i < 100; i++) {
            x.file(0, 1, 9999, 0, false, 0);
        }
        Trial.due("a hundred of 9999", judgedOf(x, 99), 3);
    }

    /** JUDGED of a CLAIM of 60 FILED on DAY 400, with another of 60 FILED that many DAYS behind it; HEARD on NOW. */
    private static int splitBy(int split, int apart, int now) {
        SmallCourt x = Trial.court("most 100;prove oath=1;split " + split);
        x.clock(Math.min(400, 400 + apart));
        x.file(0, 1, 60, 0, false, 0);
        x.clock(Math.max(400, 400 + apart));
        x.file(0, 1, 60, 0, false, 0);
        x.clock(now);
        return judgedOf(x, apart < 0 ? 1 : 0);
    }

    private static void splitDays() {
        Trial.says("III: FILED at most split DAYS ahead of this one, or behind it up to NOW");
        for (int split : new int[] {0, 1, 30, 364, 365}) {
            Trial.due(split + ": on its DAY", splitBy(split, 0, 400), 3);
            Trial.due(split + ": split DAYS ahead", splitBy(split, -split, 400), 3);
            Trial.due(split + ": one more", splitBy(split, -split - 1, 400), 5);
            Trial.due(split + ": split DAYS ahead, HEARD later", splitBy(split, -split, 7999), 3);
            Trial.due(split + ": behind it, on NOW", splitBy(split, 1, 401), 3);
            Trial.due(split + ": far behind it, on NOW", splitBy(split, 7599, 7999), 3);
        }
        SmallCourt x = Trial.court("most 100;prove oath=1;split 365");
        x.file(0, 1, 60, 0, false, 0);
        Trial.due("HEARD ahead of the other one", judgedOf(x, 0), 5);
        x.file(0, 1, 60, 0, false, 0);
        Trial.due("HEARD behind it", judgedOf(x, 1), 3);
        x = Trial.court("most 100;prove oath=1;split 365");
        x.clock(3);
        x.file(0, 1, 60, 0, false, 0);
        Trial.due("split reaches ahead of DAY 0", judgedOf(x, 0), 5);
    }

    private static void theFirstThatHolds() {
        Trial.says("III: JUDGED, the first that holds");
        SmallCourt x = new SmallCourt();
        Trial.act(x, 0, "age 1;most 10;prove oath=0");
        x.person(-9000, 0, 1, 0, 0, -1);
        x.person(0, 0, 1, 0, 0, -1);
        for (int i = 2; i < 5; i++) {
            x.person(-9000, 0, 1, 0, 0, -1);
            x.judge(i, true);
        }
        x.clock(365);
        x.file(0, 1, 11, 364, false, 0);
        x.file(0, 1, 11, 365, false, 0);
        x.file(0, 1, 10, 365, false, 0);
        Trial.due("MINOR ahead of TOO MUCH, SPLIT, LOST", judgedOf(x, 0), 1);
        Trial.due("TOO MUCH ahead of SPLIT, LOST", judgedOf(x, 1), 2);
        Trial.due("SPLIT ahead of LOST", judgedOf(x, 2), 3);
        x.clock(400);
        x.file(0, 1, 10, 365, false, 0);
        Trial.due("LOST", judgedOf(x, 3), 4);
        Trial.due("JUDGED once", x.hear(3, false, false, 0), -1);
    }

    private static int heardBy(String proof, boolean oath, boolean denied, boolean note, int witnesses, int sum) {
        SmallCourt x = Trial.court("most 9999;prove " + proof);
        x.file(0, 1, sum, 0, note, witnesses);
        x.summons(0, true);
        return x.hear(0, oath, denied, 0);
    }

    private static void proved() {
        Trial.says("III: 4 LOST: prove is not true; 5 PROVED (each WORD at its bounds)");
        for (int bit = 0; bit < 2; bit++) {
            boolean is = bit == 1;
            Trial.due("oath", heardBy("oath=1", is, !is, !is, 0, 5), is ? 5 : 4);
            Trial.due("denied", heardBy("denied=1", !is, is, !is, 0, 5), is ? 5 : 4);
            Trial.due("note", heardBy("note=1", !is, !is, is, 0, 5), is ? 5 : 4);
            Trial.due("no oath", heardBy("oath=0", is, is, is, 0, 5), is ? 4 : 5);
            Trial.due("not denied", heardBy("denied=0", is, is, is, 0, 5), is ? 4 : 5);
            Trial.due("no note", heardBy("note=0", is, is, is, 0, 5), is ? 4 : 5);
            Trial.due("never 2", heardBy("oath=2 or denied=2 or note=2", is, is, is, 2, 2), 4);
        }
        for (int witnesses = 0; witnesses < 10; witnesses++) {
            Trial.due("witness", heardBy("witness=" + witnesses, false, false, false, witnesses, 5), 5);
            Trial.due("witness", heardBy("witness>" + witnesses, false, false, false, witnesses, 5), 4);
        }
        Trial.due("claimed, the least", heardBy("claimed=1", false, false, false, 0, 1), 5);
        Trial.due("claimed, the most", heardBy("claimed>=9999", false, false, false, 0, 9999), 5);
        Trial.due("own, other, alike of no BOOKS", heardBy("own=0 and other=0 and alike=0", false, false, false, 0, 5), 5);
    }

    /** JUDGED by BOOKS whose LINES are of that DAY and told on the DAY told; FILED on DAY 10. */
    private static int booksBy(String proof, int day, int told) {
        SmallCourt x = Trial.court("prove " + proof);
        x.clock(Math.min(10, told));
        if (told <= 10) {
            tellTwins(x, day);
        }
        x.clock(10);
        x.file(0, 1, 5, 0, false, 0);
        x.clock(Math.max(10, told));
        if (told > 10) {
            tellTwins(x, day);
        }
        x.clock(30);
        return judgedOf(x, 0);
    }

    private static void tellTwins(SmallCourt x, int day) {
        x.line(0, 1, day, 0, 7);
        x.line(1, 0, day, 1, 7);
    }

    private static void books() {
        Trial.says("III: own: BOOK SUM of p with q up to the DAY of FILING, other, alike likewise");
        for (String proof : new String[] {"own=7", "other=7", "alike=1"}) {
            Trial.due(proof + " on the DAY of FILING", booksBy(proof, 10, 10), 5);
            Trial.due(proof + " on the DAY ahead", booksBy(proof, 9, 9), 5);
            Trial.due(proof + " on that DAY, told later", booksBy(proof, 10, 20), 5);
            Trial.due(proof + " on the DAY behind", booksBy(proof, 11, 20), 4);
            Trial.due(proof + " on the DAY behind", booksBy("not " + proof, 11, 20), 5);
        }
        Trial.says("III: own and other below 0, far above and far below 9999");
        for (int kind = 0; kind < 4; kind++) {
            boolean isAbove = kind == 0 || kind == 3;
            for (int owner = 0; owner < 2; owner++) {
                SmallCourt x = Trial.court("prove " + (owner == 0 ? "own" : "other") + (isAbove == (owner == 0) ? ">9999" : "<0"));
                for (int i = 0; i < 300; i++) {
                    x.line(owner, 1 - owner, 0, kind, 9999);
                }
                Trial.due("of 300 LINES of KIND " + kind, judgedOf(x, x.file(0, 1, 5, 0, false, 0)), 5);
            }
        }
    }

    private static void order() {
        Trial.says("16: OWED; NONE, and nothing happens: none such, not PROVED, ORDERED already, the defendant DEAD, or w not "
            + "1 to 9999");
        Trial.edges(ClaimBoundaryTest::threeProved, "order", (x, n) -> x.order(n, 5), 0, 2, -1);
        Trial.edges(ClaimBoundaryTest::threeProved, "w", (x, n) -> x.order(1, n), 1, 9999, -1);
        for (int k = 0; k <= LAST; k++) {
            if (k != 3) {
                int claim = k;
                Trial.refused(Trial::busy, "order " + k, x -> x.order(claim, 5), -1);
                Trial.refused(Trial::busy, "order " + k + " by too little", x -> x.order(claim, 1), -1);
                Trial.refused(Trial::busy, "order " + k + " above MEANS", x -> x.order(claim, 9999), -1);
            }
        }
        Trial.due("PROVED", Trial.busy().order(3, 5), 36);
        Trial.refused(Trial::busy, "w 0", x -> x.order(3, 0), -1);
        Trial.refused(Trial::busy, "w -1", x -> x.order(3, -1), -1);
        Trial.refused(Trial::busy, "w 10000", x -> x.order(3, 10000), -1);
    }

    private static void tooLittle() {
        Trial.says("16: -2: too little a week (less than week and less than all that is owed)");
        Trial.refused(Trial::busy, "4 of 5", x -> x.order(3, 4), -2);
        Trial.refused(Trial::busy, "1 of 5", x -> x.order(3, 1), -2);
        SmallCourt x = Trial.court("week 20;keep 0;prove oath=1;cost summons 1;cost hearing 2;cost order 4");
        int a = Trial.proved(x, 0, 1, 12);
        Trial.due("OWED less one", x.order(a, 18), -2);
        Trial.due("OWED itself, less than week", x.order(a, 19), 19);
        int b = Trial.proved(x, 0, 1, 13);
        Trial.due("week less one, OWED less one", x.order(b, 19), -2);
        Trial.due("week itself", x.order(b, 20), 20);
        int c = Trial.proved(x, 0, 1, 14);
        Trial.due("week less one", x.order(c, 19), -2);
        Trial.due("week itself, less than OWED", x.order(c, 20), 21);
        int d = Trial.proved(x, 0, 1, 1);
        Trial.due("more than week and OWED", x.order(d, 21), 8);
        x = Trial.court("");
        int e = Trial.proved(x, 0, 1, 480);
        Trial.due("without: week 12, 11", x.order(e, 11), -2);
        Trial.due("without: week 12", x.order(e, 12), 480);
        Trial.says("16: -2 ahead of -3");
        x = Trial.court("week 20;keep 999;prove oath=1");
        x.anew(1, 0, 20, 0, 0);
        int f = Trial.proved(x, 0, 1, 30);
        Trial.due("both", x.order(f, 19), -2);
        Trial.due("above MEANS alone", x.order(f, 20), -3);
        Trial.due("not ORDERED", x.claim(f, 9), -1);
    }

    private static void means() {
        Trial.says("16: -3: above MEANS (earnings less keep times heads)");
        Trial.refused(Trial::busy, "MEANS of 899, 20 open", x -> x.order(3, 880), -3);
        Trial.due("MEANS of 899, 20 open", Trial.busy().order(3, 879), 36);
        int[][] cases = {{100, 1, 60, 40}, {100, 2, 50, 0}, {99, 2, 50, -1}, {9999, 20, 999, -9981}, {9999, 1, 0, 9999},
            {0, 1, 0, 0}, {0, 20, 999, -19980}, {9999, 20, 499, 19}};
        for (int[] c : cases) {
            SmallCourt x = Trial.court("week 1;prove oath=1;keep " + c[2]);
            int claim = Trial.proved(x, 0, 1, 100);
            x.anew(1, c[0], c[1], 0, 0);
            if (c[3] < 9999) {
                Trial.due("above MEANS of " + c[3], x.order(claim, Math.max(1, c[3] + 1)), -3);
            }
            Trial.due("not ORDERED", x.claim(claim, 9), -1);
            Trial.due("by MEANS of " + c[3], x.order(claim, c[3]), c[3] > 0 ? 100 : -1);
        }
        SmallCourt x = Trial.court("");
        int claim = Trial.proved(x, 0, 1, 100);
        x.anew(1, 132, 2, 0, 0);
        Trial.due("without: keep 60", x.order(claim, 13), -3);
        Trial.due("without: keep 60", x.order(claim, 12), 100);
    }

    private static void meansOfOpenOnes() {
        Trial.says("III: w and the instalments of q's other ORDERS that are open");
        SmallCourt x = Trial.court(PLAIN);
        x.anew(1, 30, 1, 50, 50);
        int a = Trial.ordered(x, 0, 1, 100, 10);
        int b = Trial.ordered(x, 2, 1, 100, 10);
        x.person(-20000, 9999, 1, 0, 0, -1);
        x.judge(5, true);
        x.judge(0, true);
        x.hear(b, true, false, 0);
        Trial.due("by another plaintiff", x.order(b, 10), 100);
        int c = Trial.proved(x, 1, 5, 100);
        Trial.due("of another one", x.order(c, 100), 100);
        int d = Trial.proved(x, 0, 1, 100);
        Trial.due("20 are open", x.order(d, 11), -3);
        x.pay(a, 0, 99);
        Trial.due("a REST of 1 is open", x.order(d, 11), -3);
        x.pay(a, 0, 1);
        Trial.due("a REST of 0 is not", x.order(d, 21), -3);
        Trial.due("a REST of 0 is not", x.order(d, 20), 100);
        int e = Trial.proved(x, 0, 1, 100);
        x.strike(1);
        Trial.due("open again: 40 of 30", x.order(e, 1), -3);
        x.pay(a, 0, 1);
        Trial.due("30 of 30", x.order(e, 1), -3);
        x.clock(100);
        x.seize(b, 1);
        Trial.due("RIPE and SEIZED is open", x.order(e, 1), -3);
        x.gaol(b);
        Trial.due("SERVED is not", x.order(e, 11), -3);
        Trial.due("SERVED is not", x.order(e, 10), 100);
    }

    private static void pay() {
        Trial.says("17: its number; NONE, and nothing happens: none such, not ORDERED, SERVED, or something is not as told");
        Trial.edges(ClaimBoundaryTest::threeOrdered, "pay", (x, n) -> x.pay(n, 0, 5), 0, 2, -1);
        Trial.edges(Trial::busy, "day", (x, n) -> x.pay(13, n, 5), 28, 30, -1);
        Trial.edges(Trial::busy, "sum", (x, n) -> x.pay(13, 29, n), 1, 9999, -1);
        for (int k : new int[] {0, 1, 2, 3, 9, 10, 11}) {
            Trial.refused(Trial::busy, "not ORDERED " + k, x -> x.pay(k, 30, 5), -1);
        }
        Trial.refused(Trial::busy, "SERVED", x -> x.pay(7, 30, 5), -1);
        Trial.refused(Trial::busy, "SERVED, of a DAY ahead", x -> x.pay(7, 1, 5), -1);
        for (int k : new int[] {4, 5, 6, 8, 12, 14}) {
            Trial.due("CLEAR, LATE, RIPE, SEIZED, by the dead: " + k, Trial.busy().pay(k, 30, 5), 5);
        }
        SmallCourt x = threeOrdered();
        Trial.due("the ORDER's DAY is NOW", x.pay(0, 0, 5), 0);
        Trial.due("behind NOW", x.pay(0, 1, 5), -1);
        Trial.due("of another CLAIM, the next number", x.pay(1, 0, 5), 1);
        x.clock(7999);
        Trial.due("the last DAY", x.pay(0, 7999, 9999), 2);
        Trial.due("no DAY", x.pay(0, 8000, 5), -1);
    }

    /** 600 PAYMENTS within 512 calls: four owe round, which nets four PAYMENTS, and one of those is STRUCK each time. */
    static SmallCourt payments(int many) {
        SmallCourt x = new SmallCourt();
        Trial.act(x, 0, PLAIN);
        for (int i = 0; i < 7; i++) {
            x.person(-30000, 9999, 1, 50, 50, -1);
            x.judge(i, true);
        }
        for (int i = 0; i < 4; i++) {
            Trial.ordered(x, (i + 1) % 4, i, i == 0 ? 10 : 9999, 1);
        }
        for (int i = 0; i < many % 4; i++) {
            x.pay(1, 0, 1);
        }
        for (int had = many % 4; had < many; had += 4) {
            x.net();
            x.strike(had);
        }
        return x;
    }

    private static SmallCourt fullOfPayments() {
        return payments(600);
    }

    private static void sixHundred() {
        Trial.says("17: NONE: 600");
        SmallCourt x = payments(597);
        Trial.due("PAYMENTS", x.count(6), 597);
        for (int i = 597; i < 600; i++) {
            Trial.due("PAYMENT", x.pay(0, 0, 1), i);
            Trial.due("PAYMENTS", x.count(6), i + 1);
        }
        Trial.due("a 601st", x.pay(0, 0, 1), -1);
        Trial.due("strike(600)", x.strike(600), false);
        Trial.due("strike(599)", x.strike(599), true);
        Trial.due("a STRUCK one is one of them", x.pay(0, 0, 1), -1);
        Trial.due("PAID", x.state(0, 0, 0, 3), 2);
        Trial.refused(ClaimBoundaryTest::fullOfPayments, "a 601st", y -> y.pay(0, 0, 1), -1);
    }

    private static void strike() {
        Trial.says("18: true; false, and nothing happens: none such, or STRUCK already");
        Trial.edges(Trial::busy, "strike", (x, n) -> Trial.n(x.strike(n)), 0, 4, 0);
        Trial.taken(ClaimBoundaryTest::fullOfPayments, "strike", (x, n) -> Trial.n(x.strike(n)), 599, 0);
        Trial.beyond(ClaimBoundaryTest::fullOfPayments, "strike", (x, n) -> Trial.n(x.strike(n)), 0, 599, 0);
        Trial.refused(Trial::busy, "STRUCK already", x -> Trial.n(x.strike(2)), 0);
        Trial.refused(ClaimBoundaryTest::threeOrdered, "none", x -> Trial.n(x.strike(0)), 0);
        SmallCourt x = Trial.busy();
        Trial.due("one that was netted", x.strike(4), true);
        Trial.due("open again", x.state(14, 30, 30, 1), 26);
        Trial.due("STRUCK already", x.strike(4), false);
    }

    private static void seize() {
        Trial.says("19: -1000000, and nothing happens: none such, SEIZED already, or something is not as told");
        Trial.edges(ClaimBoundaryTest::threeRipe, "seize", (x, n) -> x.seize(n, 1), 0, 2, Trial.NO_SUM);
        Trial.edges(Trial::busy, "worth", (x, n) -> x.seize(5, n), 1, 9999, Trial.NO_SUM);
        Trial.refused(Trial::busy, "SEIZED already, RIPE", x -> x.seize(6, 5), Trial.NO_SUM);
        Trial.refused(Trial::busy, "SEIZED already, of the dead", x -> x.seize(12, 5), Trial.NO_SUM);
        Trial.says("19: -1000000, and nothing happens: neither LATE nor RIPE");
        for (int k : new int[] {0, 1, 2, 3, 4, 7, 9, 10, 11, 13, 14, 15}) {
            Trial.refused(Trial::busy, "neither LATE nor RIPE " + k, x -> x.seize(k, 5), Trial.NO_SUM);
        }
        Trial.due("LATE", Trial.busy().seize(8, 5), 36 + 4 - 10 - 5);
        Trial.due("RIPE", Trial.busy().seize(5, 5), 36 + 4 - 5);
    }

    private static void seizeWhenLate() {
        Trial.says("III: LATE (MISSED is late or more) as KNOWN NOW");
        for (int late : new int[] {1, 2, 20}) {
            SmallCourt x = Trial.court(PLAIN + ";gaol 20 1;late " + late);
            int a = Trial.ordered(x, 0, 1, 1000, 10);
            x.clock(7 * late - 1);
            Trial.due("a DAY ahead of " + late, x.seize(a, 5), Trial.NO_SUM);
            x.clock(7 * late);
            x.pay(a, 0, 10);
            Trial.due("missed one less", x.seize(a, 5), Trial.NO_SUM);
            x.strike(0);
            x.pay(a, 0, 9);
            Trial.due("missed " + late + ", upwards", x.seize(a, 5), 1000 - 9 - 5);
        }
        SmallCourt x = Trial.court(PLAIN + ";late 1");
        int a = Trial.ordered(x, 0, 1, 20, 20);
        x.clock(7);
        x.pay(a, 7, 19);
        Trial.due("all but 1 is paid", x.seize(a, 1), 0);
        int b = Trial.ordered(x, 0, 1, 20, 20);
        x.clock(14);
        x.pay(b, 14, 20);
        Trial.due("all is paid", x.seize(b, 1), Trial.NO_SUM);
    }

    private static void restOrOver() {
        Trial.says("19: REST then, or OVER as a number below 0; the cost of it comes on top; goods count as PAID");
        for (int d = -1; d <= 1; d++) {
            SmallCourt x = threeRipe();
            Trial.due("worth all, and " + d, x.seize(0, 5 + d), -d);
            Trial.due("REST", x.state(0, 70, 70, 1), Math.max(0, -d));
            Trial.due("OVER", x.state(0, 70, 70, 4), Math.max(0, d));
            Trial.due("PAID", x.state(0, 70, 70, 3), 5 + d);
            Trial.due("CLEAR", x.state(0, 70, 70, 0) == 7, d >= 0);
        }
        SmallCourt x = Trial.court(PLAIN + ";cost seizure 999");
        int a = Trial.ordered(x, 0, 1, 5, 1);
        x.clock(70);
        Trial.due("its cost alone is left", x.seize(a, 5), 999);
        Trial.due("REST the DAY ahead", x.state(a, 69, 70, 1), 5);
        x = Trial.court(PLAIN + ";late 1");
        a = Trial.ordered(x, 0, 1, 1, 1);
        x.clock(70);
        Trial.due("far over", x.seize(a, 9999), -9998);
    }

    private static void gaol() {
        Trial.says("20: DAYS; NONE, and nothing happens: none such, not RIPE, not SEIZED, or DEAD");
        Trial.edges(ClaimBoundaryTest::threeSeized, "gaol", (x, n) -> x.gaol(n), 0, 2, -1);
        for (int k = 0; k <= LAST; k++) {
            if (k != 6) {
                int claim = k;
                Trial.refused(Trial::busy, "gaol " + k, x -> x.gaol(claim), -1);
            }
        }
        Trial.due("RIPE and SEIZED: 35 by 12, upwards, times 2", Trial.busy().gaol(6), 6);
        Trial.refused(ClaimBoundaryTest::lateAndSeized, "LATE and SEIZED", x -> x.gaol(0), -1);
        SmallCourt x = lateAndSeized();
        x.clock(35);
        Trial.due("gaol's n of 5 MISSED, not late's 1 more", x.gaol(0), -1);
        x.clock(41);
        Trial.due("the DAY ahead", x.gaol(0), -1);
        x.clock(42);
        Trial.due("RIPE now", x.gaol(0), 9);
        Trial.due("once", x.gaol(0), -1);
        x = Trial.busy();
        x.dies(0);
        Trial.due("the plaintiff is dead", x.gaol(6), 6);
        x = threeSeized();
        x.pay(0, 70, 4);
        Trial.due("CLEAR and SEIZED", x.gaol(0), -1);
        x.pay(1, 70, 3);
        Trial.due("a REST of 1, all weeks gone, yet MISSED 1 alone", x.gaol(1), -1);
    }

    private static SmallCourt lateAndSeized() {
        SmallCourt x = Trial.court(PLAIN + ";late 1;gaol 5 1");
        Trial.ordered(x, 0, 1, 104, 10);
        x.clock(28);
        x.seize(0, 1);
        return x;
    }

    private static void ripe() {
        Trial.says("III: RIPE (late and gaol's n or more)");
        for (int n : new int[] {1, 2, 4, 20}) {
            for (int late : new int[] {1, 2, n, 20}) {
                SmallCourt x = Trial.court(PLAIN + ";late " + late + ";gaol " + n + " 1");
                int a = Trial.ordered(x, 0, 1, 500, 10);
                int both = late + n;
                String told = "late " + late + ", gaol " + n + ": ";
                Trial.due(told + "a DAY ahead of both", x.state(a, 7 * both - 1, 0, 0), 5);
                Trial.due(told + "missed both", x.state(a, 7 * both, 0, 0), 6);
                Trial.due(told + "missed one more", x.state(a, 7 * both + 7, 0, 0), 6);
                Trial.due(told + "missed late less one", x.state(a, 7 * late - 1, 0, 0), 4);
                Trial.due(told + "missed late", x.state(a, 7 * late, 0, 0), 5);
                Trial.due(told + "missed n", x.state(a, 7 * n, 0, 0), n < late ? 4 : 5);
                x.clock(7 * both);
                x.pay(a, 0, 9);
                Trial.due(told + "missed both, upwards", x.state(a, 7 * both, 7 * both, 0), 6);
                x.pay(a, 0, 1);
                Trial.due(told + "one is paid", x.state(a, 7 * both, 7 * both, 0), 5);
            }
        }
        SmallCourt x = Trial.court("");
        int a = Trial.ordered(x, 0, 1, 200, 12);
        Trial.due("without, the DAY ahead", x.state(a, 41, 0, 0), 5);
        Trial.due("without: 2 and 4", x.state(a, 42, 0, 0), 6);
    }

    /** RIPE is two MISSED at least, so that a REST of 2 by 1 a week is the least that leads to gaol. */
    private static int daysOf(int rest, int d, int longest) {
        SmallCourt x = Trial.court(PLAIN + ";gaol 1 " + d + ";late 1;longest " + longest);
        Trial.ordered(x, 0, 1, rest + 1, Math.max(1, rest / 2));
        x.clock(28);
        x.seize(0, 1);
        return x.gaol(0);
    }

    private static void days() {
        Trial.says("III: DAYS: REST by 12, upwards, times d, longest at most");
        int[][] cases = {{2, 1, 400, 1}, {12, 1, 400, 1}, {13, 1, 400, 2}, {24, 1, 400, 2}, {25, 1, 400, 3},
            {12, 30, 400, 30}, {13, 30, 400, 60}, {120, 2, 20, 20}, {121, 2, 20, 20}, {121, 2, 21, 21}, {121, 2, 22, 22},
            {121, 2, 23, 22}, {9998, 30, 400, 400}, {9998, 1, 400, 400}, {2, 30, 1, 1}, {2, 1, 1, 1}, {4800, 1, 400, 400},
            {4788, 1, 400, 399}};
        for (int[] c : cases) {
            Trial.due("REST " + c[0] + ", d " + c[1] + ", longest " + c[2], daysOf(c[0], c[1], c[2]), c[3]);
        }
        Trial.due("REST 1 is MISSED once, never RIPE", daysOf(1, 1, 400), -1);
        SmallCourt x = Trial.court("");
        Trial.ordered(x, 0, 1, 480, 12);
        x.clock(28);
        x.seize(0, 1);
        Trial.due("without: gaol's 4 alone", x.gaol(0), -1);
        x.clock(41);
        Trial.due("without: the DAY ahead", x.gaol(0), -1);
        x.clock(42);
        Trial.due("without: 479 by 12, times 1", x.gaol(0), 40);
    }

    private static void death() {
        Trial.says("III: CLAIMS against the dead can't be FILED, HEARD, ORDERED, GAOLED any more (others go on)");
        SmallCourt x = Trial.busy();
        x.dies(1);
        Trial.due("FILED", x.file(0, 1, 5, 0, false, 0), -1);
        Trial.due("HEARD", x.hear(1, true, false, 0), -1);
        Trial.due("ORDERED", x.order(3, 5), -1);
        Trial.due("GAOLED", x.gaol(6), -1);
        Trial.due("summoned", x.summons(0, true), 2);
        Trial.due("paid", x.pay(5, 30, 1), 5);
        Trial.due("STRUCK", x.strike(5), true);
        Trial.due("SEIZED", x.seize(5, 1), 39);
        Trial.due("planned", x.plan(1, 1) > 0, true);
        Trial.due("SERVED already", x.state(7, 30, 30, 0), 8);
        Trial.due("by the dead: FILED", x.file(1, 0, 5, 0, false, 0), 16);
        Trial.due("by the dead: summoned", x.summons(16, true), 1);
        Trial.due("by the dead: HEARD", x.hear(16, true, false, 0), 5);
        Trial.due("by the dead: ORDERED", x.order(16, 5), 11);
        x.clock(100);
        Trial.due("by the dead: SEIZED", x.seize(16, 1), 14);
        x.dies(2);
        Trial.due("listed", x.list(9), -1);
        x.walk();
        Trial.due("listed", x.list(9), 1);
        SmallCourt y = lateAndSeized();
        y.clock(70);
        y.dies(0);
        Trial.due("by the dead: GAOLED", y.gaol(0), 9);
    }

    private static void claim() {
        Trial.says("21: NONE without it, or for another what");
        for (int what = 0; what < 14; what++) {
            int each = what;
            Trial.beyond(Trial::busy, "claim of what " + what, (x, n) -> x.claim(n, each), 0, LAST, -1);
        }
        Trial.edges(Trial::busy, "claim", (x, n) -> x.claim(n, 2), 0, LAST, -1);
        Trial.edges(Trial::busy, "what", (x, n) -> x.claim(6, n), 0, 13, -1);
        Trial.says("21: 0: not HEARD; NONE; 0 without an ORDER");
        SmallCourt x = new SmallCourt();
        x.person(0, 0, 1, 0, 0, -1);
        x.person(0, 0, 1, 0, 0, -1);
        x.clock(7999);
        x.file(1, 0, 9999, 0, true, 9);
        int[] filed = {1, 0, 9999, 7999, 0, 0, -1, -1, -1, -1, 0, 0, -1, 0};
        for (int what = 0; what < 14; what++) {
            Trial.due("claim(0, " + what + ")", x.claim(0, what), filed[what]);
        }
        Trial.says("21: 11: OWED (without costs of a seizure), 13: 1 if SEIZED");
        x = Trial.busy();
        Trial.due("ORDERED on DAY 28", x.claim(13, 9), 28);
        Trial.due("ORDERED on DAY 0", x.claim(5, 9), 0);
        Trial.due("not ORDERED", x.claim(3, 9), -1);
        Trial.due("OWED of what is SEIZED", x.claim(6, 11), 36);
        Trial.due("OWED of what is SERVED", x.claim(7, 11), 36);
        Trial.due("SEIZED", x.claim(6, 13), 1);
        Trial.due("SEIZED and SERVED", x.claim(7, 13), 1);
        Trial.due("not SEIZED", x.claim(5, 13), 0);
    }

    private static SmallCourt filedOnTen() {
        SmallCourt x = Trial.court(PLAIN);
        x.clock(10);
        x.file(0, 1, 5, 0, false, 0);
        x.clock(20);
        return x;
    }

    private static void state() {
        Trial.says("22: NONE without these (neither ahead of its FILING)");
        for (int what = 0; what < 5; what++) {
            int each = what;
            Trial.edges(Trial::busy, "claim", (x, n) -> x.state(n, 30, 30, each), 0, LAST, -1);
            Trial.edges(ClaimBoundaryTest::filedOnTen, "day", (x, n) -> x.state(0, n, 15, each), 10, 7999, -1);
            Trial.edges(ClaimBoundaryTest::filedOnTen, "known", (x, n) -> x.state(0, 15, n, each), 10, 7999, -1);
            Trial.edges(Trial::busy, "day", (x, n) -> x.state(6, n, 30, each), 0, 7999, -1);
            Trial.edges(Trial::busy, "known", (x, n) -> x.state(6, 30, n, each), 0, 7999, -1);
        }
        Trial.edges(Trial::busy, "what", (x, n) -> x.state(6, 30, 30, n), 0, 4, -1);
        Trial.edges(ClaimBoundaryTest::filedOnTen, "what", (x, n) -> x.state(0, 10, 10, n), 0, 4, -1);
    }

    private static void statesByDays() {
        Trial.says("22: 0: STATE on the DAY of what was done and on the DAY ahead; 1 to 4: 0 ahead of the ORDER");
        SmallCourt x = Trial.court(PLAIN + ";late 1;gaol 2 1;cost seizure 7");
        x.clock(10);
        x.file(0, 1, 100, 0, false, 0);
        x.clock(20);
        x.summons(0, false);
        x.clock(30);
        x.summons(0, true);
        x.clock(40);
        x.hear(0, true, false, 0);
        x.clock(50);
        x.order(0, 10);
        x.clock(80);
        x.seize(0, 4);
        x.clock(90);
        x.gaol(0);
        int[][] due = {{10, 0, 0, 0, 0}, {29, 0, 0, 0, 0}, {30, 1, 0, 0, 0}, {39, 1, 0, 0, 0}, {40, 3, 0, 0, 0},
            {49, 3, 0, 0, 0}, {50, 4, 100, 0, 0}, {56, 4, 100, 0, 0}, {57, 5, 100, 1, 0}, {63, 5, 100, 1, 0},
            {64, 5, 100, 2, 0}, {70, 5, 100, 2, 0}, {71, 6, 100, 3, 0}, {78, 6, 100, 4, 0}, {79, 6, 100, 4, 0},
            {80, 6, 103, 4, 4}, {84, 6, 103, 4, 4}, {85, 6, 103, 5, 4}, {89, 6, 103, 5, 4}, {90, 8, 0, 0, 4},
            {7999, 8, 0, 0, 4}};
        for (int[] d : due) {
            for (int known : new int[] {10, 90, 7999}) {
                for (int what = 0; what < 4; what++) {
                    Trial.due("state on " + d[0] + ", what " + what, x.state(0, d[0], known, what), d[what + 1]);
                }
                Trial.due("OVER on " + d[0], x.state(0, d[0], known, 4), 0);
            }
        }
        x = Trial.court(PLAIN);
        x.clock(10);
        x.file(0, 1, 100, 0, false, 0);
        x.summons(0, true);
        x.clock(11);
        x.hear(0, false, false, 0);
        Trial.due("found", x.state(0, 10, 11, 0), 1);
        Trial.due("JUDGED against", x.state(0, 11, 11, 0), 2);
    }

    private static void weeks() {
        Trial.says("III: w times the weeks gone since the ORDER ((d - its DAY) / 7, downwards), OWED at most");
        SmallCourt x = Trial.court(PLAIN + ";late 20;gaol 20 1");
        x.clock(3);
        int a = Trial.ordered(x, 0, 1, 47, 10);
        for (int d = 3; d < 70; d++) {
            Trial.due("MISSED on " + d, x.state(a, d, 3, 2), Math.min(5, (d - 3) / 7));
        }
        Trial.due("MISSED on the last DAY", x.state(a, 7999, 3, 2), 5);
        int b = Trial.ordered(x, 0, 1, 50, 10);
        Trial.due("OWED is five of w", x.state(b, 3 + 35, 3, 2), 5);
        Trial.due("no more than OWED", x.state(b, 7999, 3, 2), 5);
        int c = Trial.ordered(x, 0, 1, 51, 10);
        Trial.due("one more is OWED", x.state(c, 7999, 3, 2), 6);
        int e = Trial.ordered(x, 0, 1, 1, 9);
        Trial.due("w above OWED, six DAYS", x.state(e, 9, 3, 2), 0);
        Trial.due("w above OWED, a week", x.state(e, 10, 3, 2), 1);
    }

    private static void missed() {
        Trial.says("III: MISSED: DUE less PAID by w, upwards (0 if none)");
        SmallCourt x = Trial.court(PLAIN + ";late 20;gaol 20 1");
        int a = Trial.ordered(x, 0, 1, 100, 10);
        x.clock(28);
        int paid = 0;
        int[][] steps = {{1, 4}, {8, 4}, {1, 3}, {1, 3}, {9, 2}, {19, 1}, {1, 0}, {1, 0}, {59, 0}, {1, 0}};
        for (int[] step : steps) {
            x.pay(a, 28, step[0]);
            paid += step[0];
            Trial.due("MISSED, PAID " + paid, x.state(a, 28, 28, 2), step[1]);
            Trial.due("PAID", x.state(a, 28, 28, 3), paid);
        }
        Trial.due("MISSED the DAY ahead", x.state(a, 27, 28, 2), 3);
    }

    private static void restAndOver() {
        Trial.says("III: REST: OWED less PAID, 0 at least; OVER: what is PAID more; CLEAR (REST 0)");
        SmallCourt x = Trial.court(PLAIN);
        int a = Trial.ordered(x, 0, 1, 100, 10);
        x.pay(a, 0, 99);
        Trial.due("REST 1", x.state(a, 0, 0, 1), 1);
        Trial.due("ORDERED", x.state(a, 0, 0, 0), 4);
        x.pay(a, 0, 1);
        Trial.due("REST 0", x.state(a, 0, 0, 1), 0);
        Trial.due("OVER 0", x.state(a, 0, 0, 4), 0);
        Trial.due("CLEAR", x.state(a, 0, 0, 0), 7);
        x.pay(a, 0, 1);
        Trial.due("REST 0", x.state(a, 0, 0, 1), 0);
        Trial.due("OVER 1", x.state(a, 0, 0, 4), 1);
        Trial.due("CLEAR", x.state(a, 0, 0, 0), 7);
        x.strike(0);
        Trial.due("REST again", x.state(a, 0, 0, 1), 98);
        Trial.due("OVER no more", x.state(a, 0, 0, 4), 0);
    }

    private static void known() {
        Trial.says("III: PAYMENTS of DAYS not behind d, KNOWN by k, not STRUCK by k");
        SmallCourt x = Trial.court(PLAIN);
        int a = Trial.ordered(x, 0, 1, 100, 10);
        x.clock(20);
        x.pay(a, 10, 7);
        x.clock(30);
        x.strike(0);
        x.clock(40);
        int[] days = {0, 9, 10, 11, 20, 30, 40, 7999};
        int[] knowns = {0, 19, 20, 21, 29, 30, 31, 7999};
        for (int d : days) {
            for (int k : knowns) {
                Trial.due("PAID on " + d + " as KNOWN on " + k, x.state(a, d, k, 3), d >= 10 && k >= 20 && k < 30 ? 7 : 0);
            }
        }
        x.pay(a, 40, 9);
        x.strike(1);
        for (int k : new int[] {39, 40, 41, 7999}) {
            Trial.due("STRUCK on the DAY that it came", x.state(a, 40, k, 3), 0);
        }
        x.pay(a, 0, 3);
        Trial.due("of the ORDER's DAY, KNOWN later", x.state(a, 0, 40, 3), 3);
        Trial.due("of the ORDER's DAY, KNOWN later", x.state(a, 0, 39, 3), 0);
        Trial.says("III: as KNOWN on that DAY LATE, CLEAR on the same DAY as KNOWN later");
        x = Trial.court(PLAIN + ";late 1;gaol 20 1");
        a = Trial.ordered(x, 0, 1, 10, 10);
        x.clock(30);
        x.pay(a, 7, 10);
        Trial.due("as KNOWN on 29", x.state(a, 7, 29, 0), 5);
        Trial.due("as KNOWN on 30", x.state(a, 7, 30, 0), 7);
        Trial.due("the DAY ahead", x.state(a, 6, 30, 0), 4);
        Trial.due("SEIZED goes by what is KNOWN NOW", x.seize(a, 5), Trial.NO_SUM);
    }

    private static void served() {
        Trial.says("III: it is SERVED then: REST, MISSED and OVER are 0 from that DAY on");
        SmallCourt x = threeSeized();
        x.clock(80);
        x.gaol(1);
        for (int known : new int[] {0, 79, 80, 7999}) {
            Trial.due("the DAY ahead: STATE", x.state(1, 79, known, 0), 6);
            Trial.due("the DAY ahead: REST", x.state(1, 79, known, 1), 4);
            Trial.due("the DAY ahead: MISSED", x.state(1, 79, known, 2), 4);
            for (int day : new int[] {80, 81, 7999}) {
                Trial.due("STATE", x.state(1, day, known, 0), 8);
                Trial.due("REST", x.state(1, day, known, 1), 0);
                Trial.due("MISSED", x.state(1, day, known, 2), 0);
                Trial.due("PAID", x.state(1, day, known, 3), 1);
                Trial.due("OVER", x.state(1, day, known, 4), 0);
            }
        }
        Trial.due("others not", x.state(2, 80, 80, 0), 6);
        x = threeRipe();
        x.clock(80);
        x.pay(0, 75, 9);
        x.strike(0);
        x.seize(0, 1);
        x.gaol(0);
        Trial.due("OVER as KNOWN then, the DAY ahead", x.state(0, 79, 79, 4), 0);
        x = threeRipe();
        x.pay(0, 70, 20);
        x.clock(80);
        x.strike(0);
        x.seize(0, 1);
        x.gaol(0);
        Trial.due("OVER as KNOWN on 79, the DAY ahead", x.state(0, 79, 79, 4), 15);
        Trial.due("OVER as KNOWN on 79, SERVED", x.state(0, 80, 79, 4), 0);
        Trial.due("PAID as KNOWN on 79, SERVED", x.state(0, 80, 79, 3), 21);
    }

    private static void great() {
        Trial.says("III: the greatest w, sums and DAYS (nothing wraps around)");
        SmallCourt x = Trial.court(PLAIN + ";cost summons 999;cost seizure 999;gaol 1 30;late 1;longest 400");
        x.file(0, 1, 9999, 0, false, 0);
        for (int i = 0; i < 420; i++) {
            x.summons(0, i == 419);
        }
        x.hear(0, true, false, Integer.MAX_VALUE);
        int owed = 9999 + 420 * 999;
        Trial.due("OWED", x.order(0, 9999), owed);
        Trial.due("MISSED on the last DAY", x.state(0, 7999, 0, 2), (owed + 9998) / 9999);
        Trial.due("a PAYMENT", x.pay(0, 0, 9999), 0);
        x.clock(7999);
        Trial.due("REST", x.state(0, 7999, 7999, 1), owed - 9999);
        Trial.due("SEIZED", x.seize(0, 9999), owed + 999 - 2 * 9999);
        Trial.due("DAYS", x.gaol(0), 400);
        x = Trial.court(PLAIN);
        Trial.ordered(x, 0, 1, 1, 1);
        for (int i = 0; i < 300; i++) {
            x.pay(0, 0, 9999);
        }
        Trial.due("PAID", x.state(0, 0, 0, 3), 2999700);
        Trial.due("OVER", x.state(0, 0, 0, 4), 2999699);
        Trial.due("MISSED none", x.state(0, 7999, 0, 2), 0);
    }
}
