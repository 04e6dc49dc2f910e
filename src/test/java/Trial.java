import java.util.ArrayList;
import java.util.Arrays;
import java.util.HashMap;
import java.util.List;
import java.util.Map;

/** What the boundary tests share: the document's sentences, courts made by hand, and all that can be seen of one. */
final class Trial {
    static final int NO_SUM = -1000000;
    private static final int PARTS = 6;
    private static final Map<Made, List<Long>> PICTURES = new HashMap<>();
    private static int passed;
    private static int failed;
    private static String sentence = "";

    interface Made {
        SmallCourt court();
    }

    interface Call {
        long on(SmallCourt x);
    }

    interface At {
        long on(SmallCourt x, int n);
    }

    private Trial() {
    }

    /** The sentence that the checks behind it are about, by the number of its promise. */
    static void says(String words) {
        sentence = words;
    }

    static void due(String what, long got, long want) {
        if (got == want) {
            passed++;
        } else {
            failed++;
            System.out.println(sentence + ": " + what + " answered " + got + ", due is " + want);
        }
    }

    static void due(String what, boolean got, boolean want) {
        due(what, n(got), n(want));
    }

    static int n(boolean is) {
        return is ? 1 : 0;
    }

    static void end() {
        System.out.println(passed + " passed, " + failed + " failed");
        System.exit(failed == 0 ? 0 : 1);
    }

    /** The call has that answer, and nothing that can be seen of the court is another one behind it. */
    static void refused(Made made, String what, Call call, long answer) {
        due(what, call.on(made.court()), answer);
        List<Long> ahead = PICTURES.computeIfAbsent(made, m -> seen(m, null));
        due(what + ": nothing happens", seen(made, call).equals(ahead), true);
    }

    /** From least to most is taken, what is beyond is refused and nothing happens. */
    static void edges(Made made, String what, At call, int least, int most, long refusal) {
        taken(made, what, call, least, refusal);
        taken(made, what, call, most, refusal);
        beyond(made, what, call, least, most, refusal);
    }

    static void taken(Made made, String what, At call, int n, long refusal) {
        due(what + " " + n + " is taken", call.on(made.court(), n) != refusal, true);
    }

    static void beyond(Made made, String what, At call, int least, int most, long refusal) {
        for (int wrong : new int[] {least - 1, most + 1, Integer.MIN_VALUE, Integer.MAX_VALUE}) {
            refused(made, what + " " + wrong, x -> call.on(x, wrong), refusal);
        }
    }

    static void write(SmallCourt x, String text) {
        x.end(0);
        char[] chars = Arrays.copyOf(text.toCharArray(), (text.length() + 19) / 20 * 20);
        for (int i = 0; i < chars.length; i += 20) {
            int[] f = new int[5];
            for (int k = 0; k < 20; k++) {
                f[k / 4] = f[k / 4] << 8 | chars[i + k];
            }
            x.feed(f[0], f[1], f[2], f[3], f[4]);
        }
        x.end(text.length());
    }

    static int act(SmallCourt x, int day, String text) {
        write(x, text);
        return x.act(day);
    }

    /** What act() answers for a FAULT of that kind at that place. */
    static int fault(int place, int kind) {
        return -2 - (1 + 8 * place + kind);
    }

    /** 0 and 1 without kin, 2 to 4 judges: all born long ago, earning 9999; act 0 on DAY 0. */
    static SmallCourt court(String text) {
        SmallCourt x = new SmallCourt();
        act(x, 0, text);
        for (int i = 0; i < 5; i++) {
            x.person(-30000, 9999, 1, 50, 50, -1);
        }
        for (int i = 2; i < 5; i++) {
            x.judge(i, true);
        }
        return x;
    }

    static int found(SmallCourt x, int p, int q, int sum) {
        int claim = x.file(p, q, sum, 0, false, 0);
        x.summons(claim, true);
        return claim;
    }

    static int proved(SmallCourt x, int p, int q, int sum) {
        int claim = found(x, p, q, sum);
        x.hear(claim, true, false, 0);
        return claim;
    }

    static int ordered(SmallCourt x, int p, int q, int sum, int w) {
        int claim = proved(x, p, q, sum);
        x.order(claim, w);
        return claim;
    }

    /**
     * NOW 30; two ACTS, eight persons (5 and 6 DEAD; 2, 3, 4, 7 JUDGES that live). CLAIMS: 0 FILED, 1 found, 2 LOST,
     * 3 PROVED, 4 CLEAR, 5 RIPE, 6 RIPE and SEIZED, 7 SERVED, 8 LATE, 13 ORDERED; against the dead: 9 FILED, 10 found,
     * 11 PROVED, 12 RIPE and SEIZED; 14 (CLEAR) and 15 (ORDERED) were netted. Of the PAYMENTS 0 to 4 2 is STRUCK. 0 and
     * 9 are on the list.
     */
    static SmallCourt busy() {
        SmallCourt x = new SmallCourt();
        act(x, 0, "most 900;split 0;week 5;keep 1;late 2;gaol 1 2;longest 30;age 0;cost summons 1;cost hearing 2;"
            + "cost order 3;cost seizure 4;prove oath=1");
        act(x, 60, "most 55");
        for (int i = 0; i < 8; i++) {
            x.person(-20000, 900, 1, 10 * i, 20, -1);
        }
        for (int i : new int[] {2, 3, 4, 5, 7}) {
            x.judge(i, true);
        }
        x.line(0, 1, 0, 0, 30);
        x.line(1, 0, 0, 1, 30);
        for (int k = 0; k < 13; k++) {
            x.file(0, k < 9 ? 1 : 6, 30, 0, false, 0);
        }
        x.file(0, 1, 30, 0, false, 0);
        x.file(2, 3, 20, 0, true, 1);
        x.file(3, 2, 26, 0, true, 1);
        for (int k = 0; k < 16; k++) {
            x.summons(k, k != 0 && k != 9);
            if (k > 1 && k != 10) {
                x.hear(k, k != 2, false, k);
            }
            if (k > 3 && k != 11 && k != 13) {
                x.order(k, 5);
            }
        }
        x.pay(4, 0, 36);
        x.pay(8, 0, 10);
        x.pay(8, 0, 5);
        x.clock(28);
        x.order(13, 5);
        x.strike(2);
        for (int k : new int[] {6, 7, 12}) {
            x.seize(k, 5);
        }
        x.clock(30);
        x.gaol(7);
        x.net();
        x.plan(1, 1);
        x.list(0);
        x.walk();
        x.list(9);
        x.list(0);
        x.dies(5);
        x.dies(6);
        write(x, "week 7");
        return x;
    }

    /** Parts, each of a new court, as none is called more than 512 times. */
    private static List<Long> seen(Made made, Call call) {
        List<Long> all = new ArrayList<>();
        for (int part = 0; part < PARTS; part++) {
            SmallCourt x = made.court();
            if (call != null) {
                call.on(x);
            }
            look(x, part, all);
        }
        return all;
    }

    private static void look(SmallCourt x, int part, List<Long> all) {
        switch (part) {
            case 0: lookAtActs(x, all); break;
            case 1: lookAtClaims(x, all); break;
            case 2: lookAtStates(x, all); break;
            case 3: lookAtPersons(x, all); break;
            case 4: lookAtMeansAndDoors(x, all); break;
            default: lookAtWhatIsNext(x, all);
        }
    }

    private static void lookAtActs(SmallCourt x, List<Long> all) {
        for (int what = 0; what < 9; what++) {
            all.add((long) x.count(what));
        }
        for (int what = 0; what < 14; what++) {
            all.add((long) x.force(0, what));
            all.add((long) x.force(7999, what));
        }
        for (int act = -1; act < 2; act++) {
            for (int what = 1; what < 7; what++) {
                all.add((long) x.other(act, what));
            }
        }
        for (int k = -1; k < 5; k++) {
            all.add((long) x.planned(k, 0));
            all.add((long) x.planned(k, 1));
            all.add((long) x.planned(k, 2));
            all.add((long) x.netted(k));
            all.add((long) x.walked(k));
        }
        all.add((long) x.act(0));
        for (int what = 0; what < 14; what++) {
            all.add((long) x.force(0, what));
        }
    }

    private static void lookAtClaims(SmallCourt x, List<Long> all) {
        for (int k = 0; k < Math.min(16, x.count(5)); k++) {
            for (int what = 0; what < 14; what++) {
                all.add((long) x.claim(k, what));
            }
        }
    }

    private static void lookAtStates(SmallCourt x, List<Long> all) {
        int now = x.count(0);
        for (int k = 0; k < Math.min(16, x.count(5)); k++) {
            for (int what = 0; what < 5; what++) {
                all.add((long) x.state(k, now, now, what));
                all.add((long) x.state(k, 7999, 7999, what));
            }
        }
    }

    private static void lookAtPersons(SmallCourt x, List<Long> all) {
        int many = Math.min(9, x.count(2));
        for (int i = 0; i < many; i++) {
            for (int what = 0; what < 3; what++) {
                all.add((long) x.habit(i, what));
                all.add((long) x.book(i, (i + 1) % Math.max(1, many), 7999, what));
            }
            all.add((long) n(x.judge(i, true)));
            all.add((long) n(x.dies(i)));
        }
    }

    private static void lookAtMeansAndDoors(SmallCourt x, List<Long> all) {
        int many = Math.min(6, x.count(2));
        all.add((long) x.walk());
        for (int i = 0; i < many; i++) {
            all.add((long) x.walked(i));
        }
        act(x, x.count(0), "age 0;most 9999;split 0;week 1;keep 1;prove oath=1");
        for (int i = 0; i < many; i++) {
            int claim = x.file((i + 1) % many, i, 100, x.count(0), false, 0);
            x.list(claim);
            all.add((long) x.walk());
            x.summons(claim, true);
            x.judge(6, true);
            all.add((long) x.hear(claim, true, false, i));
            for (int w : new int[] {9999, 900, 899, 800, 100, 50, 1}) {
                all.add((long) x.order(claim, w));
            }
        }
    }

    private static void lookAtWhatIsNext(SmallCourt x, List<Long> all) {
        int claims = Math.min(16, x.count(5));
        for (int k = 0; k < claims; k++) {
            all.add((long) x.list(k));
        }
        all.add((long) x.walk());
        for (int k = 0; k < 8; k++) {
            all.add((long) x.walked(k));
        }
        for (int k = 0; k < Math.min(20, x.count(6)); k++) {
            all.add((long) n(x.strike(k)));
        }
        all.add((long) x.person(0, 0, 1, 0, 0, 0));
        all.add((long) x.line(0, 1, 0, 0, 1));
        all.add((long) x.file(0, 1, 1, 0, false, 0));
        for (int k = 0; k < claims; k++) {
            all.add((long) x.pay(k, x.count(0), 1));
            all.add((long) x.summons(k, true));
        }
    }
}
