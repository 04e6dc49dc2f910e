import java.util.ArrayList;
import java.util.List;
import java.util.Random;

/** Runs of 512 random calls, each answer held against PlainCourt; any throw of the court's ends the test. */
public final class RandomRunsTest {
    private static final int CALLS = 512;
    private static final int[] WILD = {-1, -2, 0, 1, 2, 7, 8, 9, 19, 20, 39, 40, 99, 100, 399, 400, 599, 600, 7999, 8000,
        9999, 10000, -30000, -30001, 1000000, Integer.MAX_VALUE, Integer.MIN_VALUE};
    private static final String[] TEXTS = {"", "  ", "most 9999", "prove oath=1", "prove oath=1;most 900;split 3",
        "most 2000;cost summons 2;cost hearing 10;cost order 5;cost seizure 20;week 20;keep 30;late 1;gaol 2 3",
        "late 3;gaol 2 30;longest 7;age 0;keep 0", "prove oath=1 and not denied=1 or witness>2;week 300;most 9999",
        "prove own>=claimed and alike>0 or note=1 and not denied=1", "prove own=other or oath=1;age 0;keep 1;week 1",
        "keep 0;age 0;most 9999;prove oath>=denied;gaol 1 1;late 1;week 40;cost seizure 900;cost order 999",
        "keep 0;age 0;most 9999;prove oath=1;week 1;split 0;gaol 9 2;late 2"};
    private static final String[] PIECES = {"most", "split", "week", "keep", "late", "gaol", "longest", "age", "cost",
        "prove", "summons", "hearing", "order", "seizure", "oath", "denied", "note", "witness", "own", "other", "alike",
        "claimed", "and", "or", "not", "(", ")", ";", "<", "<=", "=", ">=", ">", " ", "0", "1", "12", "9999", "10000",
        "005", "x", "\u0000", "\u00e9", "-", "A"};

    private final Random random;
    private final int kind;
    private final List<String> calls = new ArrayList<>();
    private final SmallCourt court = new SmallCourt();
    private final PlainCourt plain = new PlainCourt();
    private final long[] seen;
    private boolean failed;

    private RandomRunsTest(long seed, int kind, long[] seen) {
        this.random = new Random(seed);
        this.kind = kind;
        this.seen = seen;
    }

    public static void main(String[] args) {
        int runs = args.length > 0 ? Integer.parseInt(args[0]) : 1600;
        long[] seen = new long[64];
        int failed = 0;
        for (int i = 0; i < runs && failed < 3; i++) {
            if (!new RandomRunsTest(77000L + i, i % 8, seen).run()) {
                failed++;
            }
        }
        String[] need = {"FILED", "found", "against", "PROVED", "ORDERED", "LATE", "RIPE", "CLEAR", "SERVED", "MINOR",
            "TOO MUCH", "SPLIT", "LOST", "PROVED", "rings", "plans", "plans refused", "hard", "soft", "walks of 8",
            "fault 0", "fault 1", "fault 2", "fault 3", "fault 4", "gaoled", "seized over", "refused -2", "refused -3",
            "more than 4 open", "net of 2", "net of many", "600 payments"};
        for (int i = 0; i < need.length && runs >= 1600; i++) {
            if (seen[i] < 5) {
                System.out.println("the random runs came to '" + need[i] + "' " + seen[i] + " times alone");
                failed++;
            }
        }
        if (args.length > 0) for (int i = 0; i < need.length; i++) System.out.println(need[i] + " " + seen[i]);
        System.out.println(runs - Math.min(runs, failed) + " passed, " + failed + " failed");
        System.exit(failed == 0 ? 0 : 1);
    }

    private boolean run() {
        people();
        if (kind == 6) ringOfFour();
        while (calls.size() < CALLS && !failed) {
            if (kind == 6 && chance(96)) strikeAndNet();
            else step();
        }
        return !failed;
    }

    private void due(String call, long got, long want) {
        if (failed || calls.size() >= CALLS) {
            return;
        }
        calls.add(call);
        if (got != want) {
            failed = true;
            for (String each : calls) System.out.println(each);
            System.out.println("kind " + kind + ": answered " + got + ", due is " + want);
        }
    }

    private boolean over() {
        return calls.size() >= CALLS || failed;
    }

    private int at(int least, int most) {
        return random.nextInt(kind == 7 ? 4 : 40) == 0 ? WILD[random.nextInt(WILD.length)] : least + random.nextInt(most - least + 1);
    }

    private int someone() {
        return at(0, Math.max(0, plain.persons.size() - 1));
    }

    private int someClaim() {
        return at(0, Math.max(0, plain.claims.size() - 1));
    }

    private boolean chance(int percent) {
        return random.nextInt(100) < percent;
    }

    private void people() {
        int many = kind == 1 || kind == 6 ? 8 : kind == 2 ? 3 : kind == 5 ? 5 : 4 + random.nextInt(9);
        if (chance(4)) many = 42;
        for (int i = 0; i < many; i++) {
            person();
        }
        for (int i = 0; i < many; i++) {
            if (chance(75) || kind == 5) judge(i, true);
        }
        if (chance(70)) act(TEXTS[random.nextInt(TEXTS.length)], 0);
        if (kind == 1 || kind == 5 || kind == 6) act(TEXTS[10 + random.nextInt(2)], 0);
    }

    /** Four who owe round one another, so that what is struck nets again and the 600 PAYMENTS are reached. */
    private void ringOfFour() {
        int[][] pairs = {{0, 1}, {1, 2}, {2, 3}, {3, 0}, {2, 0}, {0, 1}, {1, 0}};
        for (int[] pair : pairs) {
            int sum = chance(40) ? 9999 : 1 + random.nextInt(9999);
            boolean note = chance(50);
            int got = court.file(pair[0], pair[1], sum, 0, note, 1);
            due("file(" + pair[0] + "," + pair[1] + "," + sum + ",0," + note + ",1)", got,
                plain.file(pair[0], pair[1], sum, 0, note, 1));
            for (int i = 0; i < 4; i++) goOn(got);
        }
    }

    private void strikeAndNet() {
        for (int k = plain.payments.size() - 1; k >= 0 && !over(); k--) {
            PlainCourt.Payment one = plain.payments.get(k);
            if (one.struck == null && plain.state(one.claim, plain.now, plain.now, 0) == 7) {
                due("strike(" + k + ")", n(court.strike(k)), n(plain.strike(k)));
                break;
            }
        }
        if (chance(5) && !over()) pay(random.nextInt(7));
        if (over()) return;
        due("net()", court.net(), plain.net());
        if (plain.payments.size() > 590 && !over()) due("count(6)", court.count(6), plain.count(6));
        if (plain.payments.size() > 597) seen[32]++;
    }

    private void person() {
        int born = chance(80) ? at(-30000, -9000) : at(-9000, 0);
        int earns = kind == 6 ? 9999 : at(0, 9999), heads = at(1, 20);
        if (chance(60)) heads = 1 + random.nextInt(4);
        int x = at(0, 99), y = at(0, 99), kin = kind == 6 || kind == 1 || chance(60) ? -1 : at(0, 19);
        if (over()) return;
        due("person(" + born + "," + earns + "," + heads + "," + x + "," + y + "," + kin + ")",
            court.person(born, earns, heads, x, y, kin), plain.person(born, earns, heads, x, y, kin));
    }

    private void judge(int person, boolean is) {
        if (over()) return;
        due("judge(" + person + "," + is + ")", n(court.judge(person, is)), n(plain.judge(person, is)));
    }

    private static long n(boolean is) {
        return is ? 1 : 0;
    }

    private void act(String text, int day) {
        byte[] bytes = new byte[Math.min(400, text.length()) + 20];
        for (int i = 0; i < bytes.length - 20; i++) bytes[i] = (byte) text.charAt(i);
        for (int i = 0; i + 20 < bytes.length; i += 20) {
            int[] f = new int[5];
            for (int k = 0; k < 20; k++) f[k / 4] = f[k / 4] << 8 | bytes[i + k] & 255;
            if (over()) return;
            due("feed(" + f[0] + "," + f[1] + "," + f[2] + "," + f[3] + "," + f[4] + ")",
                court.feed(f[0], f[1], f[2], f[3], f[4]), plain.feed(f));
        }
        int length = chance(97) ? bytes.length - 20 : at(0, 400);
        if (over()) return;
        due("end(" + length + ")", court.end(length), plain.end(length));
        if (over()) return;
        int got = court.act(day);
        due("act(" + day + ") of '" + text + "'", got, plain.act(day));
        if (got < -2) seen[20 + (-2 - got - 1) % 8]++;
        count();
    }

    private String text() {
        StringBuilder text = new StringBuilder();
        if (chance(6)) {
            text.append("prove ");
            for (int i = 19 + random.nextInt(3); i > 0; i--) {
                text.append(PIECES[14 + random.nextInt(8)]).append(PIECES[28 + random.nextInt(5)]).append(i);
                text.append(i == 1 ? "" : chance(50) ? " and " : " or ");
            }
            return text.toString();
        }
        int clauses = 1 + random.nextInt(5);
        for (int i = 0; i < clauses; i++) {
            if (i > 0) text.append(chance(50) ? ";" : " ; ");
            int k = random.nextInt(14);
            if (k < 8) {
                text.append(PIECES[k]).append(' ').append(number(k));
                if (k == 5) text.append(' ').append(number(4));
            } else if (k < 11) {
                text.append("cost ").append(PIECES[10 + random.nextInt(4)]).append(' ').append(random.nextInt(1001));
            } else {
                text.append("prove ");
                either(text, chance(50) ? 9 : 2);
            }
        }
        for (int i = random.nextInt(4) - 1; i > 0 && text.length() > 0; i--) {
            int place = random.nextInt(text.length());
            switch (random.nextInt(3)) {
                case 0: text.insert(place, PIECES[random.nextInt(PIECES.length)]); break;
                case 1: text.deleteCharAt(place); break;
                default: text.setLength(place);
            }
        }
        if (chance(3)) while (text.length() < 370) text.append(' ');
        return text.length() > 400 ? text.substring(0, 400) : text.toString();
    }

    private int number(int k) {
        int[] most = {9999, 365, 999, 999, 20, 20, 400, 40};
        return random.nextInt(5) == 0 ? random.nextInt(most[k] + 3) : 1 + random.nextInt(most[k]);
    }

    private void either(StringBuilder text, int deep) {
        do {
            if (chance(25) && deep > 0) {
                text.append(chance(50) ? "not " : "not");
                if (text.charAt(text.length() - 1) == 't') text.append('(');
                else text.append(" (");
                either(text, deep - 1);
                text.append(')');
            } else if (chance(20) && deep > 0) {
                text.append('(');
                either(text, deep - 1);
                text.append(") ");
            } else {
                if (chance(15)) text.append("not ");
                text.append(PIECES[14 + random.nextInt(8)]).append(PIECES[28 + random.nextInt(5)]);
                text.append(chance(60) ? "" + random.nextInt(5) : PIECES[14 + random.nextInt(8)]);
            }
            text.append(chance(50) ? " and " : " or ");
        } while (chance(deep > 7 ? 70 : 45) && text.length() < 330);
        text.setLength(text.length() - (text.charAt(text.length() - 2) == 'd' ? 5 : 4));
    }

    private void step() {
        int k = random.nextInt(100);
        if (k < 4 && kind != 1) act(kind == 3 ? text() : chance(50) ? text() : TEXTS[random.nextInt(TEXTS.length)],
            at(plain.now, Math.min(7999, plain.now + 20)));
        else if (k < 12) clock();
        else if (k < 16) household();
        else if (kind == 2 && k < 70) lines();
        else if (kind == 3 && k < 70) act(text(), at(0, 7999));
        else if (kind == 4 && k < 60) walks();
        else if (k < 22) lines();
        else if (k < 36) file();
        else if (k < 66) goOn(someClaim());
        else if (k < 70) payments();
        else if (k < 75) plans();
        else if (k < 78 && kind == 1 && chance(70)) file();
        else if (k < 78) nets();
        else if (k < 82) walks();
        else look();
    }

    private void clock() {
        int day = chance(90) ? plain.now + random.nextInt(kind == 2 ? 3 : 16) : at(0, 7999);
        if (day > plain.now + 300 && chance(95)) day = plain.now;
        due("clock(" + day + ")", n(court.clock(day)), n(plain.clock(day)));
    }

    private void household() {
        int one = someone(), earns = at(0, 9999), heads = at(1, 5), x = at(0, 99), y = at(0, 99);
        int k = random.nextInt(12);
        if (k == 0) due("dies(" + one + ")", n(court.dies(one)), n(plain.dies(one)));
        else if (k < 6) due("anew(" + one + "," + earns + "," + heads + "," + x + "," + y + ")",
            n(court.anew(one, earns, heads, x, y)), n(plain.anew(one, earns, heads, x, y)));
        else if (k < 8) judge(one, kind == 5 || chance(80));
        else person();
    }

    private void lines() {
        int p = someone(), q = someone(), kinds = at(0, 3), sum = kind == 2 ? at(1, 3) : at(1, 9999);
        int day = kind == 2 ? at(Math.max(0, plain.now - 9), plain.now) : at(0, plain.now);
        if (kind == 2 && chance(80)) {
            p = random.nextInt(2);
            q = 1 - p;
        }
        due("line(" + p + "," + q + "," + day + "," + kinds + "," + sum + ")",
            court.line(p, q, day, kinds, sum), plain.line(p, q, day, kinds, sum));
        if (chance(20) && !over()) {
            int upTo = at(0, 7999), what = at(0, 2);
            if (chance(70)) upTo = plain.now - random.nextInt(5);
            due("book(" + p + "," + q + "," + upTo + "," + what + ")",
                court.book(p, q, upTo, what), plain.book(p, q, upTo, what));
        }
    }

    private void file() {
        int p = someone(), q = someone(), sum = chance(70) ? at(1, 300) : at(1, 9999), from = at(0, plain.now);
        boolean note = chance(50);
        int witnesses = at(0, 9);
        if (kind == 1 && chance(90)) {
            sum = at(1, 400);
            p = random.nextInt(4);
            q = (p + 1 + random.nextInt(3)) % 4;
        }
        int got = court.file(p, q, sum, from, note, witnesses);
        due("file(" + p + "," + q + "," + sum + "," + from + "," + note + "," + witnesses + ")", got,
            plain.file(p, q, sum, from, note, witnesses));
        if (got >= 0 && (kind == 1 || kind == 5)) {
            for (int i = 0; i < 3 + kind % 5; i++) goOn(got);
        }
    }

    /** The call that the CLAIM waits for, or now and then another one. */
    private void goOn(int k) {
        if (over()) return;
        int state = k >= 0 && k < plain.claims.size() ? plain.state(k, plain.now, plain.now, 0) : 9;
        if (state >= 0 && state < 9) seen[state]++;
        if (chance(10)) state = random.nextInt(9);
        if (state == 0) {
            boolean found = chance(70);
            due("summons(" + k + "," + found + ")", court.summons(k, found), plain.summons(k, found));
        } else if (state == 1) {
            boolean oath = chance(kind == 5 && calls.get(0).hashCode() % 2 == 0 ? 4 : 80), denied = chance(20);
            int draw = at(0, Integer.MAX_VALUE - 1);
            int got = court.hear(k, oath, denied, draw);
            due("hear(" + k + "," + oath + "," + denied + "," + draw + ")", got, plain.hear(k, oath, denied, draw));
            if (got > 0) seen[8 + got]++;
        } else if (state == 2 || state == 3) {
            int w = kind == 1 ? at(1, 99) : kind == 6 ? 40 : chance(70) ? at(1, 60) : at(1, 9999);
            int got = court.order(k, w);
            due("order(" + k + "," + w + ")", got, plain.order(k, w));
            if (got < -1) seen[25 - got]++;
        } else if (state == 4 || chance(30)) {
            pay(k);
        } else if (state == 5 || chance(50)) {
            int worth = chance(70) ? at(1, 100) : at(1, 9999);
            int got = court.seize(k, worth);
            due("seize(" + k + "," + worth + ")", got, plain.seize(k, worth));
            if (got < 0 && got > PlainCourt.NO_SUM) seen[26]++;
        } else {
            int got = court.gaol(k);
            due("gaol(" + k + ")", got, plain.gaol(k));
            if (got > 0) seen[25]++;
        }
    }

    private void pay(int k) {
        int day = at(Math.max(0, plain.now - 20), plain.now), sum = chance(70) ? at(1, 40) : at(1, 9999);
        due("pay(" + k + "," + day + "," + sum + ")", court.pay(k, day, sum), plain.pay(k, day, sum));
    }

    private void payments() {
        if (chance(60)) {
            pay(someClaim());
            return;
        }
        int k = at(0, Math.max(0, plain.payments.size()));
        due("strike(" + k + ")", n(court.strike(k)), n(plain.strike(k)));
    }

    private void plans() {
        int one = kind == 1 ? at(0, 3) : someone(), unit = at(1, 99);
        int open = plain.persons.isEmpty() ? 0 : 1;
        int got = court.plan(one, unit);
        due("plan(" + one + "," + unit + ")", got, plain.plan(one, unit));
        if (got > 0) seen[15] += open;
        if (got == -2) seen[16]++;
        if (got == -1 && one >= 0 && one < plain.persons.size() && unit >= 1 && unit <= 99) seen[29]++;
        for (int k = -1; k < 5; k++) {
            for (int what = 0; what < 3 && chance(60) && !over(); what++) {
                due("planned(" + k + "," + what + ")", court.planned(k, what), plain.planned(k, what));
            }
        }
    }

    private void nets() {
        int got = court.net();
        due("net()", got, plain.net());
        int many = plain.netted.size();
        seen[14] += many;
        if (many == 1) seen[30]++;
        if (many > 2) seen[31]++;
        for (int k = -1; k <= many && !over(); k++) {
            due("netted(" + k + ")", court.netted(k), plain.netted(k));
        }
    }

    private void walks() {
        if (chance(75)) {
            int k = someClaim();
            due("list(" + k + ")", court.list(k), plain.list(k));
            return;
        }
        if (kind == 4 && plain.claims.size() < 30) file();
        if (over()) return;
        int size = plain.listed.size();
        if (size == 8) seen[19]++;
        if (size < 8 && kind == 4 && chance(70)) return;
        due("walk()", court.walk(), plain.walk());
        for (int k = -1; k <= size && !over(); k++) {
            due("walked(" + k + ")", court.walked(k), plain.walked(k));
        }
    }

    private void count() {
        for (int i = 0; i < 1 && !over(); i++) {
            int what = at(0, 8);
            due("count(" + what + ")", court.count(what), plain.count(what));
        }
    }

    private void look() {
        int k = someClaim(), what = at(0, 13), one = someone();
        if (chance(40) && !plain.claims.isEmpty()) k = random.nextInt(plain.claims.size());
        int day = at(Math.max(0, plain.now - 60), Math.min(7999, plain.now + 60));
        int known = at(Math.max(0, plain.now - 60), Math.min(7999, plain.now + 10));
        switch (random.nextInt(kind == 5 ? 10 : 9)) {
            case 0: due("claim(" + k + "," + what + ")", court.claim(k, what), plain.claim(k, what)); break;
            case 1: count(); break;
            case 2: {
                int act = at(-1, plain.acts.size()), w = at(1, 6);
                due("other(" + act + "," + w + ")", court.other(act, w), plain.other(act, w));
                break;
            }
            case 3: due("force(" + day + "," + what + ")", court.force(day, what), plain.force(day, what)); break;
            case 4: case 5:
                for (int w = 0; w < 5 && !over(); w++) {
                    due("state(" + k + "," + day + "," + known + "," + w + ")",
                        court.state(k, day, known, w), plain.state(k, day, known, w));
                }
                break;
            case 6: latest(at(-2, 2), at(0, 2)); break;
            case 7: {
                int q = someone(), w = at(-1, 3);
                due("book(" + one + "," + q + "," + day + "," + w + ")",
                    court.book(one, q, day, w), plain.book(one, q, day, w));
                break;
            }
            default:
                for (int w = 0; w < 3 && !over(); w++) {
                    int got = court.habit(one, w);
                    due("habit(" + one + "," + w + ")", got, plain.habit(one, w));
                    if (w == 2 && got > 0) seen[16 + got]++;
                }
        }
    }

    /** What the latest net(), plan() and walk() told, be there one or none yet. */
    private void latest(int k, int what) {
        due("netted(" + k + ")", court.netted(k), plain.netted(k));
        if (!over()) due("planned(" + k + "," + what + ")", court.planned(k, what), plain.planned(k, what));
        if (!over()) due("walked(" + k + ")", court.walked(k), plain.walked(k));
    }
}
