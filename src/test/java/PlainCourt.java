import java.math.BigInteger;
import java.util.ArrayList;
import java.util.Arrays;
import java.util.Collections;
import java.util.HashMap;
import java.util.HashSet;
import java.util.List;
import java.util.Map;
import java.util.Set;
import java.util.TreeSet;

/** The document done a second time by trying everything, to hold the court's answers against. */
final class PlainCourt {
    static final int NO_SUM = -1000000;

    record Act(int number, int day, PlainText text) { }
    record Line(int owner, int other, int day, int kind, int sum) { }
    record Seat(int claim, int person) { }

    static final class Person {
        int born, earns, heads, x, y, kin;
        boolean dead, judge, was;
    }

    static final class Claim {
        int number, p, q, sum, from, filed, tries, judged, w, owed, worth;
        Integer found, heard, ordered, seized, served;
        Act act;
        int[] facts = new int[8];
        List<Integer> bench = List.of(-1, -1, -1);
    }

    static final class Payment {
        int claim, day, known, sum;
        Integer struck;
    }

    int now;
    List<Byte> tape = new ArrayList<>();
    final Act without = new Act(-1, -1, new PlainText(new byte[0]));
    final List<Act> acts = new ArrayList<>();
    final List<Person> persons = new ArrayList<>();
    final List<Line> lines = new ArrayList<>();
    final List<Claim> claims = new ArrayList<>();
    final List<Claim> heard = new ArrayList<>();
    final List<Payment> payments = new ArrayList<>();
    List<int[]> planned = List.of();
    List<Integer> netted;
    List<Integer> listed = new ArrayList<>();
    List<Integer> walked = List.of();

    private static boolean in(int n, int a, int b) {
        return a <= n && n <= b;
    }

    private boolean isPerson(int k) {
        return in(k, 0, persons.size() - 1);
    }

    private boolean isClaim(int k) {
        return in(k, 0, claims.size() - 1);
    }

    boolean clock(int day) {
        boolean can = in(day, now, 7999);
        if (can) now = day;
        return can;
    }

    int feed(int... numbers) {
        if (tape.size() > 380) return -1;
        for (int n : numbers) {
            for (byte b : BigInteger.valueOf(n & 0xffffffffL | 1L << 32).toByteArray()) {
                tape.add(b);
            }
            tape.remove(tape.size() - 5);
        }
        return tape.size();
    }

    int end(int n) {
        if (!in(n, 0, tape.size())) return -1;
        tape = new ArrayList<>(tape.subList(0, n));
        return n;
    }

    int act(int day) {
        if (acts.size() == 8 || !in(day, 0, 7999)) return -1;
        byte[] bytes = new byte[tape.size()];
        for (int i = 0; i < bytes.length; i++) bytes[i] = tape.get(i);
        tape.clear();
        PlainText text = new PlainText(bytes);
        if (text.fault != 0) return -2 - text.fault;
        acts.add(new Act(acts.size(), day, text));
        return acts.size() - 1;
    }

    Act inForce(int day) {
        return acts.stream().filter(a -> a.day <= day).reduce(without, (a, b) -> b.day >= a.day ? b : a);
    }

    int force(int day, int what) {
        if (!in(day, 0, 7999) || !in(what, 0, 13)) return -1;
        return what == 0 ? inForce(day).number : inForce(day).text.values[what];
    }

    int person(int born, int earns, int heads, int x, int y, int kin) {
        if (persons.size() == 40 || !in(born, -30000, 7999) || !in(kin, -1, 19)) return -1;
        persons.add(new Person());
        if (!anew(persons.size() - 1, earns, heads, x, y)) {
            persons.remove(persons.size() - 1);
            return -1;
        }
        Person one = persons.get(persons.size() - 1);
        one.born = born;
        one.kin = kin;
        return persons.size() - 1;
    }

    boolean anew(int person, int earns, int heads, int x, int y) {
        if (!isPerson(person) || persons.get(person).dead || !in(earns, 0, 9999) || !in(heads, 1, 20)
            || !in(x, 0, 99) || !in(y, 0, 99)) return false;
        Person one = persons.get(person);
        one.earns = earns;
        one.heads = heads;
        one.x = x;
        one.y = y;
        return true;
    }

    boolean dies(int person) {
        if (!isPerson(person) || persons.get(person).dead) return false;
        return persons.get(person).dead = true;
    }

    boolean judge(int person, boolean is) {
        if (!isPerson(person)) return false;
        Person one = persons.get(person);
        boolean changes = one.judge != is;
        one.judge = is;
        one.was |= is;
        return changes;
    }

    int line(int owner, int other, int day, int kind, int sum) {
        if (lines.size() == 400 || !isPerson(owner) || !isPerson(other) || owner == other || !in(day, 0, now)
            || !in(kind, 0, 3) || !in(sum, 1, 9999)) return -1;
        lines.add(new Line(owner, other, day, kind, sum));
        return lines.size();
    }

    int book(int p, int q, int day, int what) {
        if (!isPerson(p) || !isPerson(q) || p == q || !in(day, 0, 7999) || !in(what, 0, 2)) return NO_SUM;
        return what == 0 ? bookSum(p, q, day) : what == 1 ? alike(p, q, day) : disorder(p);
    }

    private List<Line> linesOf(int p, int q, int day) {
        return lines.stream().filter(l -> l.owner == p && l.other == q && l.day <= day).toList();
    }

    int bookSum(int p, int q, int day) {
        return linesOf(p, q, day).stream().mapToInt(l -> Set.of(0, 3).contains(l.kind) ? l.sum : -l.sum).sum();
    }

    int alike(int p, int q, int day) {
        List<Line> mine = linesOf(p, q, day);
        List<Line> his = linesOf(q, p, day);
        int[] partner = new int[his.size()];
        Arrays.fill(partner, -1);
        int pairs = 0;
        for (int i = 0; i < mine.size(); i++) {
            if (augment(i, mine, his, partner, new HashSet<>())) pairs++;
        }
        return pairs;
    }

    private boolean augment(int i, List<Line> mine, List<Line> his, int[] partner, Set<Integer> seen) {
        for (int j = 0; j < his.size(); j++) {
            Line a = mine.get(i), b = his.get(j);
            boolean kinds = a.kind + b.kind == 1 || a.kind + b.kind == 5;
            if (kinds && a.sum == b.sum && Math.abs(a.day - b.day) < 4 && seen.add(j)
                && (partner[j] < 0 || augment(partner[j], mine, his, partner, seen))) {
                partner[j] = i;
                return true;
            }
        }
        return false;
    }

    private int disorder(int p) {
        List<Line> all = lines.stream().filter(l -> l.owner == p).toList();
        int many = 0;
        for (int i = 1; i < all.size(); i++) if (all.get(i).day < all.get(i - 1).day) many++;
        return many;
    }

    int file(int p, int q, int sum, int from, boolean note, int witnesses) {
        if (claims.size() == 100 || !isPerson(p) || !isPerson(q) || p == q || persons.get(q).dead
            || !in(sum, 1, 9999) || !in(from, 0, now) || !in(witnesses, 0, 9)) return -1;
        Claim c = new Claim();
        c.number = claims.size();
        c.p = p;
        c.q = q;
        c.sum = sum;
        c.from = from;
        c.filed = now;
        c.act = inForce(now);
        c.facts = new int[] {0, 0, note ? 1 : 0, witnesses, 0, 0, 0, sum};
        claims.add(c);
        return c.number;
    }

    int summons(int claim, boolean found) {
        if (!isClaim(claim) || claims.get(claim).found != null || claims.get(claim).heard != null) return -1;
        Claim c = claims.get(claim);
        if (found) c.found = now;
        return ++c.tries;
    }

    private boolean kin(int a, int b) {
        return a == b || persons.get(a).kin >= 0 && persons.get(a).kin == persons.get(b).kin;
    }

    int hear(int claim, boolean oath, boolean denied, int draw) {
        if (!isClaim(claim) || draw < 0) return -1;
        Claim c = claims.get(claim);
        if (c.found == null || c.heard != null || persons.get(c.q).dead) return -1;
        List<Integer> fit = new ArrayList<>();
        for (int i = 0; i < persons.size(); i++) {
            Person j = persons.get(i);
            if (j.judge && !j.dead && !kin(i, c.p) && !kin(i, c.q)) fit.add(i);
        }
        List<List<Integer>> sets = new ArrayList<>();
        for (int a : fit) for (int b : fit) for (int d : fit) if (a < b && b < d) sets.add(List.of(a, b, d));
        if (sets.isEmpty()) return -1;
        c.bench = sets.get(draw % sets.size());
        c.facts[0] = oath ? 1 : 0;
        c.facts[1] = denied ? 1 : 0;
        c.facts[4] = bookSum(c.p, c.q, c.filed);
        c.facts[5] = -1 * bookSum(c.q, c.p, c.filed);
        c.facts[6] = alike(c.p, c.q, c.filed);
        c.heard = now;
        c.judged = judged(c, c.act.text);
        heard.add(c);
        return c.judged;
    }

    private int judged(Claim c, PlainText t) {
        if (c.from - persons.get(c.q).born < 365 * t.values[9]) return 1;
        if (c.sum > t.values[1]) return 2;
        List<Claim> split = claims.stream()
            .filter(o -> o.p == c.p && o.q == c.q && c.filed - o.filed <= t.values[2]).toList();
        if (split.size() > 1 && split.stream().mapToInt(o -> o.sum).sum() > t.values[1]) return 3;
        return t.proves(c.facts) ? 5 : 4;
    }

    private int costs(Claim c, PlainText t, boolean order) {
        return c.tries * t.values[10] + t.values[11] + (order ? t.values[12] : 0);
    }

    private int means(int q, Act act) {
        return persons.get(q).earns - act.text.values[4] * persons.get(q).heads;
    }

    private boolean open(Claim c) {
        return in(standing(c, now, now), 4, 6);
    }

    int order(int claim, int w) {
        if (!isClaim(claim) || !in(w, 1, 9999)) return -1;
        Claim c = claims.get(claim);
        if (c.judged != 5 || c.ordered != null || persons.get(c.q).dead) return -1;
        int owed = c.sum + costs(c, c.act.text, true);
        if (w < Math.min(c.act.text.values[3], owed)) return -2;
        int others = claims.stream().filter(o -> o.q == c.q && open(o)).mapToInt(o -> o.w).sum();
        if (others + w > means(c.q, c.act)) return -3;
        c.w = w;
        c.owed = owed;
        c.ordered = now;
        return owed;
    }

    int pay(int claim, int day, int sum) {
        if (payments.size() == 600 || !isClaim(claim) || !in(sum, 1, 9999)) return -1;
        Claim c = claims.get(claim);
        if (c.ordered == null || c.served != null || !in(day, c.ordered, now)) return -1;
        return addPayment(claim, day, sum);
    }

    private int addPayment(int claim, int day, int sum) {
        Payment one = new Payment();
        one.claim = claim;
        one.day = day;
        one.known = now;
        one.sum = sum;
        payments.add(one);
        return payments.size() - 1;
    }

    boolean strike(int payment) {
        if (!in(payment, 0, payments.size() - 1) || payments.get(payment).struck != null) return false;
        payments.get(payment).struck = now;
        return true;
    }

    private static boolean by(Integer done, int d) {
        return done != null && done <= d;
    }

    private int paid(Claim c, int d, int k) {
        int sum = by(c.seized, d) ? c.worth : 0;
        for (Payment p : payments) {
            if (p.claim == c.number && p.day <= d && p.known <= k && !by(p.struck, k)) sum += p.sum;
        }
        return sum;
    }

    private int owed(Claim c, int d) {
        return c.owed + (by(c.seized, d) ? c.act.text.values[13] : 0);
    }

    private int rest(Claim c, int d, int k) {
        return Math.max(owed(c, d) - paid(c, d, k), 0);
    }

    private int missed(Claim c, int d, int k) {
        int due = Math.min(owed(c, d), c.w * Math.floorDiv(d - c.ordered, 7));
        return Math.max(0, (int) Math.ceil((due - paid(c, d, k)) / (double) c.w));
    }

    private int standing(Claim c, int d, int k) {
        if (by(c.served, d)) return 8;
        if (by(c.ordered, d)) {
            if (rest(c, d, k) == 0) return 7;
            int behindLate = missed(c, d, k) - c.act.text.values[5];
            return behindLate < 0 ? 4 : behindLate < c.act.text.values[6] ? 5 : 6;
        }
        if (by(c.heard, d)) return c.judged == 5 ? 3 : 2;
        return by(c.found, d) ? 1 : 0;
    }

    int seize(int claim, int worth) {
        if (!isClaim(claim) || !in(worth, 1, 9999)) return NO_SUM;
        Claim c = claims.get(claim);
        if (c.seized != null || !in(standing(c, now, now), 5, 6)) return NO_SUM;
        c.seized = now;
        c.worth = worth;
        return owed(c, now) - paid(c, now, now);
    }

    int gaol(int claim) {
        if (!isClaim(claim)) return -1;
        Claim c = claims.get(claim);
        if (standing(c, now, now) != 6 || c.seized == null || persons.get(c.q).dead) return -1;
        int days = (rest(c, now, now) + 11) / 12 * c.act.text.values[7];
        c.served = now;
        return Math.min(days, c.act.text.values[8]);
    }

    private static int orNone(Integer day) {
        return day == null ? -1 : day;
    }

    int claim(int k, int what) {
        if (!isClaim(k) || !in(what, 0, 13)) return -1;
        Claim c = claims.get(k);
        return new int[] {c.p, c.q, c.sum, c.filed, c.tries, c.judged, c.bench.get(0), c.bench.get(1), c.bench.get(2),
            orNone(c.ordered), c.w, c.owed, c.act.number, c.seized != null ? 1 : 0}[what];
    }

    int state(int claim, int day, int known, int what) {
        if (!isClaim(claim) || !in(what, 0, 4)) return -1;
        Claim c = claims.get(claim);
        if (!in(day, c.filed, 7999) || !in(known, c.filed, 7999)) return -1;
        if (what == 0) return standing(c, day, known);
        if (!by(c.ordered, day)) return 0;
        if (what == 3) return paid(c, day, known);
        if (by(c.served, day)) return 0;
        if (what == 1) return rest(c, day, known);
        if (what == 2) return missed(c, day, known);
        return Math.max(0, paid(c, day, known) - owed(c, day));
    }

    int plan(int person, int unit) {
        if (!isPerson(person) || !in(unit, 1, 99)) return -1;
        List<Claim> all = claims.stream().filter(c -> c.q == person && open(c)).toList();
        if (all.size() > 4) return -1;
        if (all.isEmpty()) {
            planned = List.of();
            return 0;
        }
        int[] best = null;
        for (int code = 0; code < Math.pow(13, all.size()); code++) {
            int[] made = new int[all.size() + 2];
            int sum = 0;
            for (int i = all.size() - 1, rest = code; i >= 0; i--, rest /= 13) {
                int left = rest(all.get(i), now, now);
                int w = Math.min(all.get(i).act.text.values[3], left) + rest % 13 * unit;
                sum += w;
                made[0] = Math.max(made[0], (left + w - 1) / w);
                made[1] += (left + w - 1) / w;
                made[i + 2] = w;
            }
            if (sum <= means(person, inForce(now)) && (best == null || Arrays.compare(made, best) < 0)) best = made;
        }
        if (best == null) return -2;
        List<int[]> told = new ArrayList<>();
        for (int i = 0; i < all.size(); i++) {
            int w = best[i + 2];
            told.add(new int[] {all.get(i).number, w, (rest(all.get(i), now, now) + w - 1) / w});
        }
        planned = told;
        return best[0];
    }

    int planned(int k, int what) {
        return in(k, 0, planned.size() - 1) && in(what, 0, 2) ? planned.get(k)[what] : -1;
    }

    private Map<Integer, Map<Integer, Integer>> debts() {
        Map<Integer, Map<Integer, Integer>> owes = new HashMap<>();
        for (Claim c : claims) {
            if (open(c)) owes.computeIfAbsent(c.q, q -> new HashMap<>()).merge(c.p, rest(c, now, now), Integer::sum);
        }
        return owes;
    }

    private static void rings(Map<Integer, Map<Integer, Integer>> owes, List<Integer> ring, List<List<Integer>> found) {
        for (int next : new TreeSet<>(owes.getOrDefault(ring.get(ring.size() - 1), Map.of()).keySet())) {
            if (next == ring.get(0) && ring.size() > 1) found.add(List.copyOf(ring));
            if (next > ring.get(0) && !ring.contains(next) && ring.size() < 4) {
                ring.add(next);
                rings(owes, ring, found);
                ring.remove(ring.size() - 1);
            }
        }
    }

    private static int least(Map<Integer, Map<Integer, Integer>> owes, List<Integer> ring) {
        int least = Integer.MAX_VALUE;
        for (int i = 0; i < ring.size(); i++) {
            least = Math.min(least, owes.get(ring.get(i)).get(ring.get((i + 1) % ring.size())));
        }
        return least;
    }

    private static int compare(List<Integer> a, List<Integer> b) {
        for (int i = 0; i < a.size(); i++) {
            if (!a.get(i).equals(b.get(i))) return a.get(i) - b.get(i);
        }
        return 0;
    }

    int net() {
        netted = new ArrayList<>();
        int all = 0;
        while (true) {
            Map<Integer, Map<Integer, Integer>> owes = debts();
            List<List<Integer>> found = new ArrayList<>();
            for (int first : owes.keySet()) rings(owes, new ArrayList<>(List.of(first)), found);
            if (found.isEmpty()) return all;
            Collections.sort(found, (a, b) -> least(owes, a) != least(owes, b) ? least(owes, b) - least(owes, a)
                : a.size() != b.size() ? a.size() - b.size() : compare(a, b));
            List<Integer> ring = found.get(0);
            int least = least(owes, ring);
            int had = payments.size();
            for (int i = 0; i < ring.size(); i++) {
                int left = least;
                for (Claim c : claims) {
                    if (left > 0 && c.q == ring.get(i) && c.p == ring.get((i + 1) % ring.size()) && open(c)) {
                        int sum = Math.min(left, rest(c, now, now));
                        addPayment(c.number, now, sum);
                        left -= sum;
                    }
                }
            }
            if (payments.size() > 600) {
                payments.subList(had, payments.size()).clear();
                return all;
            }
            netted.add(least);
            all += least * ring.size();
        }
    }

    int netted(int k) {
        if (netted == null) return -1;
        return k == -1 ? netted.size() : in(k, 0, netted.size() - 1) ? netted.get(k) : -1;
    }

    int list(int claim) {
        if (!isClaim(claim) || claims.get(claim).found != null || claims.get(claim).heard != null
            || listed.contains(claim) || listed.size() == 8) return -1;
        listed.add(claim);
        return listed.size();
    }

    int walk() {
        Collections.sort(listed);
        int[] best = {listed.isEmpty() ? 0 : Integer.MAX_VALUE};
        walked = List.of();
        ways(new ArrayList<>(), 0, best);
        listed = new ArrayList<>();
        return best[0];
    }

    private void ways(List<Integer> way, int steps, int[] best) {
        if (way.size() == listed.size() && !way.isEmpty()) {
            steps += steps(way.get(way.size() - 1), -1);
            if (steps < best[0]) {
                best[0] = steps;
                walked = List.copyOf(way);
            }
        }
        for (int next : listed) {
            if (!way.contains(next)) {
                int more = steps(way.isEmpty() ? -1 : way.get(way.size() - 1), next);
                way.add(next);
                ways(way, steps + more, best);
                way.remove(way.size() - 1);
            }
        }
    }

    private int[] door(int claim) {
        if (claim < 0) return new int[] {50, 50};
        Person q = persons.get(claims.get(claim).q);
        return new int[] {q.x, q.y};
    }

    private int steps(int a, int b) {
        return Math.abs(door(a)[0] - door(b)[0]) + Math.abs(door(a)[1] - door(b)[1]);
    }

    int walked(int k) {
        return in(k, 0, walked.size() - 1) ? walked.get(k) : -1;
    }

    private static BigInteger ways(int n, int atLeast) {
        BigInteger all = BigInteger.ZERO;
        BigInteger choose = BigInteger.ONE;
        for (int i = n; i >= atLeast; i--) {
            all = all.add(choose);
            choose = choose.multiply(BigInteger.valueOf(i)).divide(BigInteger.valueOf(n - i + 1));
        }
        return all;
    }

    private static boolean rare(int n, int atLeast) {
        return ways(n, atLeast).multiply(BigInteger.valueOf(20)).compareTo(BigInteger.TWO.pow(n)) <= 0;
    }

    int habit(int person, int what) {
        if (!isPerson(person) || !persons.get(person).was || !in(what, 0, 2)) return -1;
        List<Claim> his = heard.stream().filter(c -> c.judged > 3 && c.bench.contains(person)).toList();
        his = his.subList(Math.max(0, his.size() - 60), his.size());
        int n = his.size();
        int m = (int) his.stream().filter(c -> c.judged == 5).count();
        return what == 0 ? n : what == 1 ? m : rare(n, m) ? 1 : rare(n, n - m) ? 2 : 0;
    }

    int other(int act, int what) {
        if (!in(act, -1, acts.size() - 1) || !in(what, 1, 6)) return -1;
        PlainText text = act < 0 ? without.text : acts.get(act).text;
        if (what == 6) return heard.stream().mapToInt(c -> costs(c, text, judged(c, text) == 5)).sum();
        return (int) heard.stream().filter(c -> judged(c, text) == what).count();
    }

    int count(int what) {
        if (!in(what, 0, 8)) return -1;
        int judges = (int) persons.stream().filter(p -> p.judge && !p.dead).count();
        return new int[] {now, acts.size(), persons.size(), judges, lines.size(), claims.size(), payments.size(),
            tape.size(), listed.size()}[what];
    }
}
