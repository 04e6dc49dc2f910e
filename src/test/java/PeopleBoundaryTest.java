/** The boundary cases of promises 7 to 12 and of chapter II (PERSONS, BOOKS), sentence by sentence. */
public final class PeopleBoundaryTest {
    private static final int GAVE = 0;
    private static final int GOT = 1;
    private static final int WAS_PAID = 2;
    private static final int PAID = 3;

    public static void main(String[] args) {
        person();
        forty();
        anew();
        toldLast();
        dies();
        judge();
        kin();
        line();
        fourHundred();
        book();
        bookSum();
        bookSumOfAll();
        twins();
        twinsUpTo();
        noLineTwice();
        disorder();
        Trial.end();
    }

    private static SmallCourt people(int many) {
        SmallCourt x = new SmallCourt();
        for (int i = 0; i < many; i++) {
            x.person(-20000, 100, 1, 50, 50, -1);
        }
        return x;
    }

    private static SmallCourt two() {
        return people(2);
    }

    private static void person() {
        Trial.says("7: a PERSON: the number; NONE: something is not as told");
        for (Trial.Made made : new Trial.Made[] {Trial::busy, SmallCourt::new}) {
            Trial.edges(made, "born", (x, n) -> x.person(n, 5, 1, 0, 0, 0), -30000, 7999, -1);
            Trial.edges(made, "earns", (x, n) -> x.person(0, n, 1, 0, 0, 0), 0, 9999, -1);
            Trial.edges(made, "heads", (x, n) -> x.person(0, 5, n, 0, 0, 0), 1, 20, -1);
            Trial.edges(made, "x", (x, n) -> x.person(0, 5, 1, n, 0, 0), 0, 99, -1);
            Trial.edges(made, "y", (x, n) -> x.person(0, 5, 1, 0, n, 0), 0, 99, -1);
            Trial.edges(made, "kin", (x, n) -> x.person(0, 5, 1, 0, 0, n), -1, 19, -1);
        }
        SmallCourt x = new SmallCourt();
        Trial.due("the least of all", x.person(-30000, 0, 1, 0, 0, -1), 0);
        Trial.due("the most of all", x.person(7999, 9999, 20, 99, 99, 19), 1);
        Trial.due("born behind NOW, a DAY like others", x.person(1, 0, 1, 0, 0, 0), 2);
        Trial.due("PERSONS", x.count(2), 3);
    }

    private static SmallCourt fortyPeople() {
        return people(40);
    }

    private static void forty() {
        Trial.says("7: NONE: there are 40");
        SmallCourt x = new SmallCourt();
        for (int i = 0; i < 40; i++) {
            Trial.due("PERSON " + i, x.person(0, 0, 1, 0, 0, i % 20), i);
            Trial.due("PERSONS", x.count(2), i + 1);
        }
        Trial.due("a 41st", x.person(0, 0, 1, 0, 0, 0), -1);
        Trial.refused(PeopleBoundaryTest::fortyPeople, "a 41st", y -> y.person(0, 0, 1, 0, 0, 0), -1);
        Trial.says("7: the last one is a PERSON like others");
        Trial.due("judge(39)", x.judge(39, true), true);
        Trial.due("judge(40)", x.judge(40, true), false);
        Trial.due("line(39, 38)", x.line(39, 38, 0, GAVE, 5), 1);
        Trial.due("book(39, 38)", x.book(39, 38, 0, 0), 5);
        Trial.due("file(39, 38)", x.file(39, 38, 5, 0, false, 0), 0);
        Trial.due("anew(39)", x.anew(39, 5, 1, 0, 0), true);
        Trial.due("plan(39)", x.plan(39, 1), 0);
        Trial.due("habit(39)", x.habit(39, 0), 0);
        Trial.due("dies(39)", x.dies(39), true);
        Trial.due("dies(40)", x.dies(40), false);
    }

    private static void anew() {
        Trial.says("8: true; false, and nothing happens, for others, or the DEAD");
        Trial.edges(Trial::busy, "person", (x, n) -> Trial.n(x.anew(n, 50, 2, 9, 9)), 0, 7, 0);
        Trial.edges(PeopleBoundaryTest::two, "person", (x, n) -> Trial.n(x.anew(n, 50, 2, 9, 9)), 0, 1, 0);
        Trial.edges(Trial::busy, "earns", (x, n) -> Trial.n(x.anew(1, n, 2, 9, 9)), 0, 9999, 0);
        Trial.edges(Trial::busy, "heads", (x, n) -> Trial.n(x.anew(1, 50, n, 9, 9)), 1, 20, 0);
        Trial.edges(Trial::busy, "x", (x, n) -> Trial.n(x.anew(1, 50, 2, n, 9)), 0, 99, 0);
        Trial.edges(Trial::busy, "y", (x, n) -> Trial.n(x.anew(1, 50, 2, 9, n)), 0, 99, 0);
        Trial.refused(Trial::busy, "the DEAD", x -> Trial.n(x.anew(6, 50, 2, 9, 9)), 0);
        Trial.refused(Trial::busy, "a DEAD JUDGE", x -> Trial.n(x.anew(5, 50, 2, 9, 9)), 0);
    }

    private static void toldLast() {
        Trial.says("II: earnings, heads and DOOR can be told anew (they are as told last)");
        SmallCourt x = Trial.court("week 1;keep 10;prove oath=1");
        int claim = Trial.proved(x, 0, 1, 200);
        Trial.due("anew", x.anew(1, 9999, 20, 0, 0), true);
        Trial.due("anew again", x.anew(1, 100, 3, 99, 0), true);
        Trial.due("anew the same", x.anew(1, 100, 3, 99, 0), true);
        x.anew(1, 9999, 21, 0, 0);
        Trial.due("above MEANS of 70", x.order(claim, 71), -3);
        Trial.due("MEANS of 70", x.order(claim, 70), 200);
        x.list(x.file(0, 1, 5, 0, false, 0));
        Trial.due("the DOOR", x.walk(), 198);
        x.list(1);
        x.anew(1, 100, 3, 0, 0);
        Trial.due("another DOOR, told anew behind the list", x.walk(), 200);
    }

    private static void dies() {
        Trial.says("9: true; false, and nothing happens, without him, or dead already");
        Trial.edges(PeopleBoundaryTest::two, "dies", (x, n) -> Trial.n(x.dies(n)), 0, 1, 0);
        Trial.edges(Trial::busy, "dies", (x, n) -> Trial.n(x.dies(n)), 0, 7, 0);
        Trial.refused(Trial::busy, "dead already", x -> Trial.n(x.dies(6)), 0);
        Trial.refused(Trial::busy, "a JUDGE dead already", x -> Trial.n(x.dies(5)), 0);
        SmallCourt x = two();
        Trial.due("the first", x.dies(0), true);
        Trial.due("the last", x.dies(1), true);
        Trial.due("all are dead", x.dies(0), false);
        Trial.due("PERSONS still", x.count(2), 2);
        Trial.due("one more is born", x.person(0, 0, 1, 0, 0, 0), 2);
        Trial.due("another number, alive", x.dies(2), true);
    }

    private static void judge() {
        Trial.says("10: whether that changed anything; false without him");
        Trial.edges(PeopleBoundaryTest::two, "judge", (x, n) -> Trial.n(x.judge(n, true)), 0, 1, 0);
        for (int k : new int[] {-1, 8, Integer.MIN_VALUE, Integer.MAX_VALUE}) {
            Trial.refused(Trial::busy, "no JUDGE " + k, x -> Trial.n(x.judge(k, false)), 0);
            Trial.refused(Trial::busy, "JUDGE " + k, x -> Trial.n(x.judge(k, true)), 0);
        }
        Trial.refused(Trial::busy, "a JUDGE already", x -> Trial.n(x.judge(2, true)), 0);
        Trial.refused(Trial::busy, "none already", x -> Trial.n(x.judge(0, false)), 0);
        SmallCourt x = two();
        Trial.due("none already", x.judge(0, false), false);
        Trial.due("never a JUDGE", x.habit(0, 0), -1);
        Trial.due("a JUDGE", x.judge(0, true), true);
        Trial.due("already", x.judge(0, true), false);
        Trial.due("JUDGES", x.count(3), 1);
        Trial.due("none any more", x.judge(0, false), true);
        Trial.due("none already", x.judge(0, false), false);
        Trial.due("JUDGES", x.count(3), 0);
        Trial.due("one who was", x.habit(0, 0), 0);
        x.dies(1);
        Trial.due("of the dead", x.judge(1, true), true);
        Trial.due("JUDGES that live", x.count(3), 0);
        Trial.due("of the dead, already", x.judge(1, true), false);
        Trial.due("of the dead", x.judge(1, false), true);
    }

    /** The last of three JUDGES has that KIN, p and q another one each. */
    private static int benchOf(int kinOfP, int kinOfQ, int kinOfJudge) {
        SmallCourt x = new SmallCourt();
        int[] kin = {kinOfP, kinOfQ, -1, 7, kinOfJudge};
        for (int i = 0; i < 5; i++) {
            x.person(-9000, 0, 1, 0, 0, kin[i]);
            x.judge(i, true);
        }
        return x.hear(Trial.found(x, 0, 1, 5), true, false, 0);
    }

    private static void kin() {
        Trial.says("II: KIN (0 to 19, or NONE: no kin but himself)");
        Trial.due("others", benchOf(1, 2, 3), 5);
        Trial.due("KIN of p", benchOf(1, 2, 1), -1);
        Trial.due("KIN of q", benchOf(1, 2, 2), -1);
        Trial.due("0 is a KIN", benchOf(0, 2, 0), -1);
        Trial.due("0 is a KIN", benchOf(1, 0, 0), -1);
        Trial.due("0 is not NONE", benchOf(0, 0, -1), 5);
        Trial.due("NONE is not 0", benchOf(-1, -1, 0), 5);
        Trial.due("19 is a KIN", benchOf(19, 2, 19), -1);
        Trial.due("NONE is no KIN of NONE", benchOf(-1, -1, -1), 5);
        Trial.due("KIN of another JUDGE", benchOf(1, 2, 7), 5);
    }

    private static void line() {
        Trial.says("11: how many there are; NONE: something is not as told");
        Trial.edges(Trial::busy, "owner", (x, n) -> x.line(n, n == 0 ? 1 : 0, 5, GAVE, 5), 0, 7, -1);
        Trial.edges(Trial::busy, "other", (x, n) -> x.line(n == 0 ? 1 : 0, n, 5, GAVE, 5), 0, 7, -1);
        Trial.edges(Trial::busy, "day", (x, n) -> x.line(0, 1, n, GAVE, 5), 0, 30, -1);
        Trial.edges(Trial::busy, "kind", (x, n) -> x.line(0, 1, 5, n, 5), 0, 3, -1);
        Trial.edges(Trial::busy, "sum", (x, n) -> x.line(0, 1, 5, GAVE, n), 1, 9999, -1);
        for (int k = 0; k < 8; k++) {
            int same = k;
            Trial.refused(Trial::busy, "with himself " + k, x -> x.line(same, same, 5, GAVE, 5), -1);
        }
        SmallCourt x = two();
        Trial.due("DAY 0 is NOW", x.line(0, 1, 0, GAVE, 5), 1);
        Trial.due("behind NOW", x.line(0, 1, 1, GAVE, 5), -1);
        x.clock(7999);
        Trial.due("the last DAY", x.line(0, 1, 7999, GAVE, 5), 2);
        Trial.due("no DAY", x.line(0, 1, 8000, GAVE, 5), -1);
        x.dies(0);
        x.dies(1);
        Trial.due("of the dead, with the dead", x.line(0, 1, 5, GAVE, 5), 3);
        Trial.due("LINES", x.count(4), 3);
    }

    private static SmallCourt fullBooks() {
        SmallCourt x = two();
        for (int i = 0; i < 400; i++) {
            x.line(i % 2, 1 - i % 2, 0, i % 2, 7);
        }
        return x;
    }

    private static void fourHundred() {
        Trial.says("11: NONE: 400");
        SmallCourt x = two();
        for (int i = 0; i < 400; i++) {
            Trial.due("LINE", x.line(0, 1, 0, GAVE, 9999), i + 1);
        }
        Trial.due("a 401st", x.line(0, 1, 0, GAVE, 1), -1);
        Trial.due("a 401st in the other BOOK", x.line(1, 0, 0, GAVE, 1), -1);
        Trial.due("LINES", x.count(4), 400);
        Trial.due("the BOOK SUM of all", x.book(0, 1, 0, 0), 3999600);
        Trial.due("of the other one", x.book(1, 0, 0, 0), 0);
        Trial.refused(PeopleBoundaryTest::fullBooks, "a 401st", y -> y.line(0, 1, 0, GAVE, 7), -1);
    }

    private static void book() {
        Trial.says("12: -1000000 without these (p and q two PERSONS, a DAY, what 0 to 2)");
        for (int k = 0; k < 3; k++) {
            int what = k;
            Trial.edges(Trial::busy, "p", (x, n) -> x.book(n, n == 0 ? 1 : 0, 30, what), 0, 7, Trial.NO_SUM);
            Trial.edges(Trial::busy, "q", (x, n) -> x.book(n == 0 ? 1 : 0, n, 30, what), 0, 7, Trial.NO_SUM);
            Trial.edges(Trial::busy, "day", (x, n) -> x.book(0, 1, n, what), 0, 7999, Trial.NO_SUM);
            Trial.refused(Trial::busy, "of himself", x -> x.book(0, 0, 30, what), Trial.NO_SUM);
            Trial.refused(Trial::busy, "of the last himself", x -> x.book(7, 7, 30, what), Trial.NO_SUM);
        }
        Trial.edges(Trial::busy, "what", (x, n) -> x.book(0, 1, 30, n), 0, 2, Trial.NO_SUM);
        Trial.says("12: a BOOK without LINES");
        SmallCourt x = two();
        for (int what = 0; what < 3; what++) {
            Trial.due("empty, what " + what, x.book(0, 1, 7999, what), 0);
        }
    }

    private static void bookSum() {
        Trial.says("II: BOOK SUM up to a DAY: p's LINES with q of DAYS not behind it");
        SmallCourt x = people(3);
        x.clock(20);
        int[] worth = {1, -1, -1, 1};
        for (int kind = 0; kind < 4; kind++) {
            int had = x.book(0, 1, 20, 0);
            x.line(0, 1, 10, kind, 9999);
            Trial.due("KIND " + kind, x.book(0, 1, 20, 0) - had, 9999 * worth[kind]);
        }
        x.line(0, 2, 10, GAVE, 3);
        Trial.due("the DAY ahead", x.book(0, 2, 9, 0), 0);
        Trial.due("the DAY", x.book(0, 2, 10, 0), 3);
        Trial.due("the first DAY of all", x.book(0, 2, 0, 0), 0);
        Trial.due("the last DAY of all", x.book(0, 2, 7999, 0), 3);
        Trial.due("q's BOOK with p", x.book(2, 0, 20, 0), 0);
        Trial.due("with another one", x.book(0, 1, 20, 0), 0);
        x.line(0, 2, 9, GOT, 8);
        Trial.due("below 0", x.book(0, 2, 20, 0), -5);
        Trial.due("told later, of an earlier DAY", x.book(0, 2, 9, 0), -8);
    }

    private static void bookSumOfAll() {
        Trial.says("II: BOOK SUM of 400 LINES of 9999");
        SmallCourt x = two();
        for (int i = 0; i < 400; i++) {
            x.line(1, 0, 0, i % 2 == 0 ? GOT : WAS_PAID, 9999);
        }
        Trial.due("below 0", x.book(1, 0, 0, 0), -3999600);
        Trial.due("ALIKE", x.book(1, 0, 0, 1), 0);
        Trial.due("DISORDER", x.book(1, 0, 0, 2), 0);
    }

    private static int alike(int day, int kind, int sum, int hisDay, int hisKind, int hisSum) {
        SmallCourt x = two();
        x.clock(20);
        x.line(0, 1, day, kind, sum);
        x.line(1, 0, hisDay, hisKind, hisSum);
        Trial.due("of the other", x.book(1, 0, 20, 1), x.book(0, 1, 20, 1));
        return x.book(0, 1, 20, 1);
    }

    private static void twins() {
        Trial.says("II: twins if one gave what the other one got, or one was paid what the other one paid");
        for (int kind = 0; kind < 4; kind++) {
            for (int his = 0; his < 4; his++) {
                boolean are = kind == GAVE && his == GOT || kind == GOT && his == GAVE || kind == PAID && his == WAS_PAID
                    || kind == WAS_PAID && his == PAID;
                Trial.due(kind + " and " + his, alike(5, kind, 7, 5, his, 7), are ? 1 : 0);
            }
        }
        Trial.says("II: the sums are the same");
        Trial.due("one more", alike(5, GAVE, 7, 5, GOT, 8), 0);
        Trial.due("one less", alike(5, PAID, 7, 5, WAS_PAID, 6), 0);
        Trial.due("the least", alike(5, GAVE, 1, 5, GOT, 1), 1);
        Trial.due("the most", alike(5, GAVE, 9999, 5, GOT, 9999), 1);
        Trial.says("II: the DAYS at most 3 apart");
        for (int apart = -5; apart <= 5; apart++) {
            Trial.due(apart + " apart", alike(10, GAVE, 7, 10 + apart, GOT, 7), apart >= -3 && apart <= 3 ? 1 : 0);
        }
        Trial.due("the first DAYS", alike(0, GAVE, 7, 3, GOT, 7), 1);
        Trial.due("the first DAYS", alike(4, GAVE, 7, 0, GOT, 7), 0);
    }

    private static void twinsUpTo() {
        Trial.says("II: ALIKE up to a DAY (both not behind that DAY)");
        SmallCourt x = people(3);
        x.clock(20);
        x.line(0, 1, 10, GAVE, 7);
        x.line(1, 0, 12, GOT, 7);
        x.line(0, 2, 10, GOT, 7);
        x.line(2, 0, 8, GAVE, 7);
        for (int i = 0; i < 2; i++) {
            Trial.due("his is behind", x.book(i, 1 - i, 11, 1), 0);
            Trial.due("his DAY", x.book(i, 1 - i, 12, 1), 1);
            Trial.due("both behind", x.book(i, 1 - i, 9, 1), 0);
            Trial.due("the last DAY", x.book(i, 1 - i, 7999, 1), 1);
            Trial.due("mine is behind", x.book(2 * i, 2 - 2 * i, 9, 1), 0);
            Trial.due("my DAY", x.book(2 * i, 2 - 2 * i, 10, 1), 1);
        }
        Trial.due("others' LINES", x.book(1, 2, 20, 1), 0);
    }

    /** ALIKE of LINES of those DAYS: the first one gave, the other one got. */
    private static int pairs(int[] mine, int[] his) {
        SmallCourt x = two();
        x.clock(400);
        for (int day : mine) {
            x.line(0, 1, day, GAVE, 7);
        }
        for (int day : his) {
            x.line(1, 0, day, GOT, 7);
        }
        Trial.due("of the other", x.book(1, 0, 400, 1), x.book(0, 1, 400, 1));
        return x.book(0, 1, 400, 1);
    }

    private static void noLineTwice() {
        Trial.says("II: the most pairs of twins in which no LINE is twice");
        Trial.due("none of none", pairs(new int[] {5}, new int[] {}), 0);
        Trial.due("two of mine", pairs(new int[] {5, 5}, new int[] {5}), 1);
        Trial.due("two of his", pairs(new int[] {5}, new int[] {5, 5}), 1);
        Trial.due("two of both", pairs(new int[] {5, 5}, new int[] {5, 5}), 2);
        Trial.due("a chain", pairs(new int[] {0, 3, 6}, new int[] {3, 6, 9}), 3);
        Trial.due("a chain told backwards", pairs(new int[] {6, 3, 0}, new int[] {3, 6, 9}), 3);
        Trial.due("a chain told backwards", pairs(new int[] {0, 3, 6}, new int[] {9, 6, 3}), 3);
        Trial.due("the nearest of all would cost a pair", pairs(new int[] {13, 10}, new int[] {16, 12}), 2);
        Trial.due("the latest of all would cost a pair", pairs(new int[] {10, 13}, new int[] {13, 10}), 2);
        Trial.due("a chain with a gap", pairs(new int[] {0, 4, 8}, new int[] {3, 7, 12}), 2);
        int[] many = new int[200];
        for (int i = 0; i < 200; i++) {
            many[i] = i * 7 % 200;
        }
        Trial.due("all of 400 LINES", pairs(many, many), 200);
        Trial.due("1 against 2", pairs(new int[] {4}, new int[] {1, 7}), 1);
        int[] days = {0, 2, 3, 6};
        for (int code = 0; code < 4096; code++) {
            int[] mine = {days[code & 3], days[code >> 2 & 3], days[code >> 4 & 3]};
            int[] his = {days[code >> 6 & 3], days[code >> 8 & 3], days[code >> 10] + 3};
            Trial.due("three of both, " + code, pairs(mine, his), mostPairs(mine, his, 0, 0));
        }
    }

    /** Tries each partner that is left, and none, for each of mine in turn. */
    private static int mostPairs(int[] mine, int[] his, int from, int taken) {
        if (from == mine.length) {
            return 0;
        }
        int most = mostPairs(mine, his, from + 1, taken);
        for (int k = 0; k < his.length; k++) {
            if ((taken >> k & 1) == 0 && Math.abs(mine[from] - his[k]) <= 3) {
                most = Math.max(most, 1 + mostPairs(mine, his, from + 1, taken | 1 << k));
            }
        }
        return most;
    }

    private static int disorderOf(int... days) {
        SmallCourt x = people(3);
        x.clock(10);
        for (int i = 0; i < days.length; i++) {
            x.line(0, 1 + i % 2, days[i], i % 4, 5);
            x.line(1, 0, 9 - i % 2 * 9, 0, 5);
        }
        Trial.due("with the other one", x.book(0, 2, 0, 2), x.book(0, 1, 10, 2));
        Trial.due("of another BOOK", x.book(1, 2, 10, 2), days.length / 2);
        Trial.due("of a BOOK without LINES", x.book(2, 0, 10, 2), 0);
        return x.book(0, 1, 10, 2);
    }

    private static void disorder() {
        Trial.says("II: DISORDER: LINES of an earlier DAY than the LINE ahead of it in that BOOK (of all its LINES)");
        Trial.due("none", disorderOf(), 0);
        Trial.due("the first LINE", disorderOf(0), 0);
        Trial.due("the same DAY", disorderOf(5, 5), 0);
        Trial.due("a later DAY", disorderOf(5, 6), 0);
        Trial.due("the DAY ahead", disorderOf(5, 4), 1);
        Trial.due("later than the LINE ahead, earlier than others", disorderOf(5, 3, 4), 1);
        Trial.due("earlier each time", disorderOf(5, 4, 3, 0), 3);
        Trial.due("up and down", disorderOf(0, 10, 0, 10, 0), 2);
        SmallCourt x = two();
        x.clock(1);
        for (int i = 0; i < 400; i++) {
            x.line(0, 1, 1 - i % 2, GAVE, 5);
        }
        Trial.due("of 400 LINES", x.book(0, 1, 0, 2), 200);
    }
}
