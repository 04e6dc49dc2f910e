/** A court of small debts: acts, persons, books, claims and what is known of them on any day. */
public final class SmallCourt {
    public static final int NONE = -1;

    private static final int NO_SUM = -1000000;
    private static final int TOO_LITTLE = -2;
    private static final int ABOVE_MEANS = -3;

    private static final int LAST_DAY = 7999;
    private static final int FIRST_BIRTH = -30000;
    private static final int MOST_SUM = 9999;
    private static final int MOST_BYTES = 400;
    private static final int MOST_ACTS = 8;
    private static final int MOST_PERSONS = 40;
    private static final int MOST_LINES = 400;
    private static final int MOST_CLAIMS = 100;
    private static final int MOST_PAYMENTS = 600;
    private static final int MOST_PLANNED = 4;
    private static final int MOST_UNITS = 12;
    private static final int MOST_WALKED = 8;
    private static final int LAST_HEARD = 60;
    private static final int BENCH = 3;
    private static final int LONGEST_RING = 4;
    // More than any sum, number of weeks or number of steps.
    private static final int FAR = 1000000000;

    // What an ACT tells, by the numbers that force() has for it.
    private static final int MOST = 1;
    private static final int SPLIT_DAYS = 2;
    private static final int WEEK = 3;
    private static final int KEEP = 4;
    private static final int LATE_AT = 5;
    private static final int GAOL_AT = 6;
    private static final int GAOL_DAYS = 7;
    private static final int LONGEST = 8;
    private static final int AGE = 9;
    private static final int COST_SUMMONS = 10;
    private static final int COST_HEARING = 11;
    private static final int COST_ORDER = 12;
    private static final int COST_SEIZURE = 13;
    private static final int TOLD = 14;

    private static final int[] WITHOUT = {0, 480, 30, 12, 60, 2, 4, 1, 40, 21, 0, 0, 0, 0};
    private static final int[] LEAST_TOLD = {0, 1, 0, 1, 0, 1, 1, 1, 1, 0, 0, 0, 0, 0};
    private static final int[] MOST_TOLD = {0, 9999, 365, 999, 999, 20, 20, 30, 400, 40, 999, 999, 999, 999};

    // The WORDS stand in slots of eight, so that a WORD's slot is its number.
    private static final int SLOT = 8;
    // Two slots bear no WORD: nothing has the number 0 in force(), and gaol's second number has no WORD.
    private static final String CLAUSES =
        "-       most    split   week    keep    late    gaol    -       longest age     cost    prove   ";
    private static final String STEPS = "summons hearing order   seizure ";
    private static final String FACTS = "oath    denied  note    witness own     other   alike   claimed ";
    private static final String AND = "and     ";
    private static final String OR = "or      ";
    private static final String NOT = "not     ";
    private static final int CLAUSE_COST = 10;
    private static final int CLAUSE_PROVE = 11;
    // The bit of "prove told" must not be the bit of any STEP's cost.
    private static final int PROVE_TOLD = TOLD;

    private static final int OATH = 0;
    private static final int DENIED = 1;
    private static final int NOTE = 2;
    private static final int WITNESS = 3;
    private static final int OWN = 4;
    private static final int OTHER = 5;
    private static final int ALIKE = 6;
    private static final int CLAIMED = 7;
    private static final int FACT_COUNT = 8;

    private static final int FAULT_PLACE = 0;
    private static final int FAULT_NUMBER = 1;
    private static final int FAULT_TWICE = 2;
    private static final int FAULT_DEEP = 3;
    private static final int FAULT_TERMS = 4;
    private static final int MOST_DEEP = 8;
    private static final int MOST_TERMS = 20;
    private static final int MOST_DIGITS = 4;

    // Twenty terms, nineteen joints and as many nots as 400 bytes can hold are less than this.
    private static final int MOST_PROOF = 160;
    private static final int JOINT_AND = -1;
    private static final int JOINT_OR = -2;
    private static final int JOINT_NOT = -3;
    private static final int LESS = 1;
    private static final int EQUAL = 2;
    private static final int GREATER = 4;

    private static final int MINOR = 1;
    private static final int TOO_MUCH = 2;
    private static final int SPLIT = 3;
    private static final int LOST = 4;
    private static final int PROVED = 5;

    private static final int STATE_FILED = 0;
    private static final int STATE_FOUND = 1;
    private static final int STATE_AGAINST = 2;
    private static final int STATE_PROVED = 3;
    private static final int STATE_ORDERED = 4;
    private static final int STATE_LATE = 5;
    private static final int STATE_RIPE = 6;
    private static final int STATE_CLEAR = 7;
    private static final int STATE_SERVED = 8;

    private final byte[] tape = new byte[MOST_BYTES];
    private int tapeLength;
    private int now;
    private final Reader reader = new Reader();
    private final Act without = new Act(NONE, NONE);
    private final Act[] acts = new Act[MOST_ACTS];
    private int actCount;
    private final Person[] persons = new Person[MOST_PERSONS];
    private int personCount;
    private final Books books = new Books();
    private final Claim[] claims = new Claim[MOST_CLAIMS];
    private int claimCount;
    private final Claim[] heard = new Claim[MOST_CLAIMS];
    private int heardCount;
    private final Payments payments = new Payments();
    private final int[] fit = new int[MOST_PERSONS];
    private final int[] rests = new int[MOST_CLAIMS];
    private final Plan planning = new Plan();
    private final Rings rings = new Rings();
    private final Walk walking = new Walk();

    public SmallCourt() {
    }

    public boolean clock(int day) {
        if (!isDay(day) || day < now) {
            return false;
        }
        now = day;
        return true;
    }

    public int feed(int a, int b, int c, int d, int e) {
        if (tapeLength + 20 > MOST_BYTES) {
            return NONE;
        }
        feedBytes(a);
        feedBytes(b);
        feedBytes(c);
        feedBytes(d);
        feedBytes(e);
        return tapeLength;
    }

    private void feedBytes(int four) {
        for (int shift = 24; shift >= 0 && tapeLength < MOST_BYTES; shift -= 8) {
            tape[tapeLength] = (byte) (four >> shift);
            tapeLength++;
        }
    }

    public int end(int n) {
        if (n < 0 || n > tapeLength) {
            return NONE;
        }
        tapeLength = n;
        return n;
    }

    public int act(int day) {
        if (actCount >= MOST_ACTS || !isDay(day)) {
            return NONE;
        }
        Act told = new Act(actCount, day);
        int fault = reader.readAct(tape, tapeLength, told);
        tapeLength = 0;
        if (fault != 0) {
            return -2 - fault;
        }
        acts[actCount] = told;
        actCount++;
        return told.number;
    }

    public int force(int day, int what) {
        if (!isDay(day) || what < 0 || what >= TOLD) {
            return NONE;
        }
        Act act = inForce(day);
        return what == 0 ? act.number : act.told[what];
    }

    private Act inForce(int day) {
        Act best = without;
        for (int i = 0; i < actCount; i++) {
            if (acts[i].day <= day && acts[i].day >= best.day) {
                best = acts[i];
            }
        }
        return best;
    }

    public int person(int born, int earns, int heads, int x, int y, int kin) {
        if (personCount >= MOST_PERSONS || !isWithin(born, FIRST_BIRTH, LAST_DAY)
                || !isHousehold(earns, heads, x, y) || !isWithin(kin, NONE, 19)) {
            return NONE;
        }
        Person one = new Person(personCount, born, kin);
        one.tell(earns, heads, x, y);
        persons[personCount] = one;
        personCount++;
        return one.number;
    }

    public boolean anew(int person, int earns, int heads, int x, int y) {
        Person one = personAt(person);
        if (one == null || one.dead || !isHousehold(earns, heads, x, y)) {
            return false;
        }
        one.tell(earns, heads, x, y);
        return true;
    }

    public boolean dies(int person) {
        Person one = personAt(person);
        if (one == null || one.dead) {
            return false;
        }
        one.dead = true;
        return true;
    }

    public boolean judge(int person, boolean is) {
        Person one = personAt(person);
        if (one == null || one.isJudge == is) {
            return false;
        }
        one.isJudge = is;
        one.wasJudge = true;
        return true;
    }

    public int line(int owner, int other, int day, int kind, int sum) {
        if (books.count >= MOST_LINES || !areTwo(owner, other) || !isWithin(day, 0, now)
                || !isWithin(kind, 0, 3) || !isWithin(sum, 1, MOST_SUM)) {
            return NONE;
        }
        books.addLine(owner, other, day, kind, sum);
        return books.count;
    }

    public int book(int p, int q, int day, int what) {
        if (!areTwo(p, q) || !isDay(day)) {
            return NO_SUM;
        }
        switch (what) {
            case 0: return books.sumWith(p, q, day);
            case 1: return books.twinPairs(p, q, day);
            case 2: return books.disorder(p);
            default: return NO_SUM;
        }
    }

    public int file(int p, int q, int sum, int from, boolean note, int witnesses) {
        Person plaintiff = personAt(p);
        Person defendant = personAt(q);
        if (claimCount >= MOST_CLAIMS || plaintiff == null || defendant == null || p == q || defendant.dead
                || !isWithin(sum, 1, MOST_SUM) || !isWithin(from, 0, now) || !isWithin(witnesses, 0, 9)) {
            return NONE;
        }
        Claim filed = new Claim(claimCount, plaintiff, defendant, inForce(now));
        filed.sum = sum;
        filed.from = from;
        filed.filed = now;
        filed.facts[NOTE] = note ? 1 : 0;
        filed.facts[WITNESS] = witnesses;
        filed.facts[CLAIMED] = sum;
        claims[claimCount] = filed;
        claimCount++;
        return filed.number;
    }

    public int summons(int claim, boolean found) {
        Claim one = claimAt(claim);
        if (one == null || one.found != NONE) {
            return NONE;
        }
        one.tries++;
        if (found) {
            one.found = now;
        }
        return one.tries;
    }

    public int hear(int claim, boolean oath, boolean denied, int draw) {
        Claim one = claimAt(claim);
        if (one == null || one.found == NONE || one.heard != NONE || one.defendant.dead || draw < 0
                || heardCount >= MOST_CLAIMS || !drawBench(one, draw)) {
            return NONE;
        }
        int p = one.plaintiff.number;
        int q = one.defendant.number;
        one.facts[OATH] = oath ? 1 : 0;
        one.facts[DENIED] = denied ? 1 : 0;
        one.facts[OWN] = books.sumWith(p, q, one.filed);
        one.facts[OTHER] = -books.sumWith(q, p, one.filed);
        one.facts[ALIKE] = books.twinPairs(p, q, one.filed);
        one.heard = now;
        one.judged = judgement(one, one.act);
        heard[heardCount] = one;
        heardCount++;
        return one.judged;
    }

    private boolean drawBench(Claim one, int draw) {
        int many = 0;
        for (int i = 0; i < personCount; i++) {
            if (persons[i].maySit(one)) {
                fit[many] = i;
                many++;
            }
        }
        int sets = many * (many - 1) * (many - 2) / 6;
        if (sets < 1) {
            return false;
        }
        int place = draw % sets;
        for (int a = 0; a < many; a++) {
            for (int b = a + 1; b < many; b++) {
                int thirds = many - b - 1;
                if (place < thirds) {
                    one.bench[0] = fit[a];
                    one.bench[1] = fit[b];
                    one.bench[2] = fit[b + 1 + place];
                    return true;
                }
                place -= thirds;
            }
        }
        return false;
    }

    private int judgement(Claim one, Act act) {
        if (one.from < one.defendant.born + 365 * act.told[AGE]) {
            return MINOR;
        }
        if (one.sum > act.told[MOST]) {
            return TOO_MUCH;
        }
        if (sumOfSplit(one, act) > act.told[MOST]) {
            return SPLIT;
        }
        return act.proves(one.facts) ? PROVED : LOST;
    }

    private int sumOfSplit(Claim one, Act act) {
        int sum = 0;
        for (int i = 0; i < claimCount; i++) {
            Claim each = claims[i];
            if (each.plaintiff == one.plaintiff && each.defendant == one.defendant
                    && each.filed >= one.filed - act.told[SPLIT_DAYS]) {
                sum += each.sum;
            }
        }
        return sum;
    }

    public int order(int claim, int w) {
        Claim one = claimAt(claim);
        if (one == null || one.judged != PROVED || one.ordered != NONE || one.defendant.dead
                || !isWithin(w, 1, MOST_SUM)) {
            return NONE;
        }
        int owed = one.sum + one.costsBy(one.act, true);
        if (w < one.act.told[WEEK] && w < owed) {
            return TOO_LITTLE;
        }
        if (w + openInstalments(one.defendant) > one.defendant.meansBy(one.act)) {
            return ABOVE_MEANS;
        }
        one.owed = owed;
        one.weekly = w;
        one.ordered = now;
        return owed;
    }

    private int openInstalments(Person debtor) {
        int sum = 0;
        for (int i = 0; i < claimCount; i++) {
            if (claims[i].defendant == debtor && claims[i].isOpen(payments, now)) {
                sum += claims[i].weekly;
            }
        }
        return sum;
    }

    public int pay(int claim, int day, int sum) {
        Claim one = claimAt(claim);
        if (payments.count >= MOST_PAYMENTS || one == null || one.ordered == NONE || one.served != NONE
                || !isWithin(day, one.ordered, now) || !isWithin(sum, 1, MOST_SUM)) {
            return NONE;
        }
        return payments.addPayment(claim, day, now, sum);
    }

    public boolean strike(int payment) {
        if (payment < 0 || payment >= payments.count || payments.struck[payment] != NONE) {
            return false;
        }
        payments.struck[payment] = now;
        return true;
    }

    public int seize(int claim, int worth) {
        Claim one = claimAt(claim);
        if (one == null || one.seized != NONE || !isWithin(worth, 1, MOST_SUM)) {
            return NO_SUM;
        }
        int standing = one.stateOn(payments, now, now);
        if (standing != STATE_LATE && standing != STATE_RIPE) {
            return NO_SUM;
        }
        one.seized = now;
        one.worth = worth;
        return one.balanceOn(payments, now, now);
    }

    public int gaol(int claim) {
        Claim one = claimAt(claim);
        if (one == null || one.seized == NONE || one.defendant.dead
                || one.stateOn(payments, now, now) != STATE_RIPE) {
            return NONE;
        }
        int days = roundUp(one.restOn(payments, now, now), 12) * one.act.told[GAOL_DAYS];
        one.served = now;
        return Math.min(days, one.act.told[LONGEST]);
    }

    public int claim(int k, int what) {
        Claim one = claimAt(k);
        if (one == null) {
            return NONE;
        }
        switch (what) {
            case 0: return one.plaintiff.number;
            case 1: return one.defendant.number;
            case 2: return one.sum;
            case 3: return one.filed;
            case 4: return one.tries;
            case 5: return one.judged;
            case 6: return one.bench[0];
            case 7: return one.bench[1];
            case 8: return one.bench[2];
            case 9: return one.ordered;
            case 10: return one.weekly;
            case 11: return one.owed;
            case 12: return one.act.number;
            case 13: return one.seized == NONE ? 0 : 1;
            default: return NONE;
        }
    }

    public int state(int claim, int day, int known, int what) {
        Claim one = claimAt(claim);
        if (one == null || !isWithin(day, one.filed, LAST_DAY) || !isWithin(known, one.filed, LAST_DAY)) {
            return NONE;
        }
        switch (what) {
            case 0: return one.stateOn(payments, day, known);
            case 1: return one.restOn(payments, day, known);
            case 2: return one.missedOn(payments, day, known);
            case 3: return one.paidOn(payments, day, known);
            case 4: return one.overOn(payments, day, known);
            default: return NONE;
        }
    }

    public int plan(int person, int unit) {
        Person one = personAt(person);
        if (one == null || !isWithin(unit, 1, 99)) {
            return NONE;
        }
        planning.clear(unit, one.meansBy(inForce(now)));
        for (int i = 0; i < claimCount; i++) {
            Claim each = claims[i];
            if (each.defendant == one && each.isOpen(payments, now)) {
                if (planning.open >= MOST_PLANNED) {
                    return NONE;
                }
                planning.addOpen(each, each.restOn(payments, now, now));
            }
        }
        return planning.settle();
    }

    public int planned(int k, int what) {
        if (k < 0 || k >= planning.told) {
            return NONE;
        }
        switch (what) {
            case 0: return planning.claims[k];
            case 1: return planning.weekly[k];
            case 2: return planning.weeks[k];
            default: return NONE;
        }
    }

    public int net() {
        rings.clear(personCount);
        for (int i = 0; i < claimCount; i++) {
            Claim each = claims[i];
            rests[i] = each.restOn(payments, now, now);
            rings.owe(each.defendant.number, each.plaintiff.number, rests[i]);
        }
        int all = 0;
        // Each ring ends one pair's debt at least, so there are no more rings than CLAIMS.
        for (int i = 0; i < MOST_CLAIMS && rings.findBest() && ringNeeds() <= MOST_PAYMENTS - payments.count; i++) {
            all += takeOffRing();
        }
        return all;
    }

    private int ringNeeds() {
        int needs = 0;
        for (int i = 0; i < rings.bestLength; i++) {
            int left = rings.bestLeast;
            for (int k = 0; k < claimCount && left > 0; k++) {
                if (rests[k] > 0 && rings.isDebt(i, claims[k])) {
                    left -= Math.min(left, rests[k]);
                    needs++;
                }
            }
        }
        return needs;
    }

    private int takeOffRing() {
        int least = rings.bestLeast;
        for (int i = 0; i < rings.bestLength; i++) {
            int left = least;
            for (int k = 0; k < claimCount && left > 0; k++) {
                if (rests[k] > 0 && rings.isDebt(i, claims[k])) {
                    int sum = Math.min(left, rests[k]);
                    payments.addPayment(k, now, now, sum);
                    rests[k] -= sum;
                    left -= sum;
                }
            }
        }
        int all = least * rings.bestLength;
        rings.takeOff();
        return all;
    }

    public int netted(int k) {
        if (k == NONE) {
            return rings.count;
        }
        return k < 0 || k >= rings.count ? NONE : rings.leasts[k];
    }

    public int list(int claim) {
        Claim one = claimAt(claim);
        if (one == null || one.found != NONE || walking.isListed(one) || walking.listed >= MOST_WALKED) {
            return NONE;
        }
        walking.putOnList(one);
        return walking.listed;
    }

    public int walk() {
        return walking.walkList();
    }

    public int walked(int k) {
        return k < 0 || k >= walking.walked ? NONE : walking.latest[k];
    }

    public int habit(int person, int what) {
        Person one = personAt(person);
        if (one == null || !one.wasJudge) {
            return NONE;
        }
        int n = 0;
        int m = 0;
        for (int i = heardCount - 1; i >= 0 && n < LAST_HEARD; i--) {
            if (heard[i].judged >= LOST && heard[i].isOnBench(person)) {
                n++;
                m += heard[i].judged == PROVED ? 1 : 0;
            }
        }
        switch (what) {
            case 0: return n;
            case 1: return m;
            case 2: return isBeyondDoubt(n, m) ? 1 : isBeyondDoubt(n, n - m) ? 2 : 0;
            default: return NONE;
        }
    }

    private static boolean isBeyondDoubt(int n, int atLeast) {
        long ways = 0;
        long chosen = 1;
        for (int i = 0; i <= n; i++) {
            if (i >= atLeast) {
                ways += chosen;
            }
            chosen = chosen * (n - i) / (i + 1);
        }
        // 20 times the ways of 60 would not fit, so that all are divided instead.
        return ways <= (1L << n) / 20;
    }

    public int other(int act, int what) {
        if (act < NONE || act >= actCount || what < MINOR || what > PROVED + 1) {
            return NONE;
        }
        Act another = act == NONE ? without : acts[act];
        int many = 0;
        int costs = 0;
        for (int i = 0; i < heardCount; i++) {
            int judged = judgement(heard[i], another);
            many += judged == what ? 1 : 0;
            costs += heard[i].costsBy(another, judged == PROVED);
        }
        return what > PROVED ? costs : many;
    }

    public int count(int what) {
        switch (what) {
            case 0: return now;
            case 1: return actCount;
            case 2: return personCount;
            case 3: return livingJudges();
            case 4: return books.count;
            case 5: return claimCount;
            case 6: return payments.count;
            case 7: return tapeLength;
            case 8: return walking.listed;
            default: return NONE;
        }
    }

    private int livingJudges() {
        int many = 0;
        for (int i = 0; i < personCount; i++) {
            many += persons[i].isJudge && !persons[i].dead ? 1 : 0;
        }
        return many;
    }

    private Person personAt(int k) {
        return k < 0 || k >= personCount ? null : persons[k];
    }

    private Claim claimAt(int k) {
        return k < 0 || k >= claimCount ? null : claims[k];
    }

    private boolean areTwo(int p, int q) {
        return p != q && personAt(p) != null && personAt(q) != null;
    }

    private static boolean isDay(int day) {
        return isWithin(day, 0, LAST_DAY);
    }

    private static boolean isHousehold(int earns, int heads, int x, int y) {
        return isWithin(earns, 0, 9999) && isWithin(heads, 1, 20) && isWithin(x, 0, 99) && isWithin(y, 0, 99);
    }

    private static boolean isWithin(int n, int least, int most) {
        return n >= least && n <= most;
    }

    private static int roundUp(int sum, int by) {
        return sum <= 0 || by < 1 ? 0 : (sum - 1) / by + 1;
    }

    /** What an ACT tells; of its EITHER what is joined comes first, then what joins it. */
    private static final class Act {
        final int number;
        final int day;
        final int[] told = new int[TOLD];
        final int[] proof = new int[MOST_PROOF];
        int proofLength;

        Act(int number, int day) {
            this.number = number;
            this.day = day;
            System.arraycopy(WITHOUT, 0, told, 0, TOLD);
            proof[0] = term(OATH, EQUAL, false, 1);
            proof[1] = term(DENIED, EQUAL, false, 0);
            proof[2] = JOINT_AND;
            proofLength = 3;
        }

        static int term(int left, int sign, boolean isWord, int right) {
            return left | sign << 3 | (isWord ? 1 : 0) << 6 | right << 7;
        }

        void addProof(int code) {
            if (proofLength < MOST_PROOF) {
                proof[proofLength] = code;
                proofLength++;
            }
        }

        boolean proves(int[] facts) {
            // What is true so far, a bit each, the latest lowest: twenty terms never fill it.
            int truths = 0;
            for (int i = 0; i < proofLength; i++) {
                int top = truths & 1;
                int below = truths >> 1 & 1;
                switch (proof[i]) {
                    case JOINT_NOT: truths ^= 1; break;
                    case JOINT_AND: truths = truths >> 2 << 1 | top & below; break;
                    case JOINT_OR: truths = truths >> 2 << 1 | top | below; break;
                    default: truths = truths << 1 | (holds(proof[i], facts) ? 1 : 0);
                }
            }
            return (truths & 1) == 1;
        }

        private static boolean holds(int term, int[] facts) {
            int left = facts[term & 7];
            int right = term >> 7;
            if ((term >> 6 & 1) == 1) {
                right = facts[right & 7];
            }
            int is = left < right ? LESS : left == right ? EQUAL : GREATER;
            return (term >> 3 & is) != 0;
        }
    }

    /** Reads a text along its bytes into an ACT, up to its first FAULT. */
    private static final class Reader {
        private byte[] text = new byte[0];
        private int length;
        private int at;
        private int fault;
        private int toldOnce;
        private int terms;
        private Act into;

        int readAct(byte[] bytes, int many, Act act) {
            text = bytes;
            length = many < 0 || many > bytes.length ? 0 : many;
            at = 0;
            fault = 0;
            toldOnce = 0;
            terms = 0;
            into = act;
            skipBlanks();
            boolean goesOn = at < length;
            for (int i = 0; i <= length && goesOn; i++) {
                goesOn = readClause() && isAnotherClause();
            }
            return fault;
        }

        private boolean isAnotherClause() {
            skipBlanks();
            if (at >= length) {
                return false;
            }
            if (text[at] != ';') {
                return refuse(at, FAULT_PLACE);
            }
            at++;
            return true;
        }

        private boolean readClause() {
            skipBlanks();
            int from = at;
            int clause = readWord(CLAUSES);
            if (clause < 0) {
                return refuse(from, FAULT_PLACE);
            }
            if (clause == CLAUSE_COST) {
                return readCost();
            }
            if (clause == CLAUSE_PROVE) {
                into.proofLength = 0;
                return tellOnce(PROVE_TOLD, from) && readEither(0);
            }
            return tellOnce(clause, from) && readTold(clause)
                && (clause != GAOL_AT || readTold(GAOL_DAYS));
        }

        private boolean readCost() {
            skipBlanks();
            int from = at;
            int step = readWord(STEPS);
            if (step < 0) {
                return refuse(from, FAULT_PLACE);
            }
            return tellOnce(COST_SUMMONS + step, from) && readTold(COST_SUMMONS + step);
        }

        private boolean tellOnce(int what, int place) {
            int bit = 1 << what;
            if ((toldOnce & bit) != 0) {
                return refuse(place, FAULT_TWICE);
            }
            toldOnce |= bit;
            return true;
        }

        private boolean readTold(int what) {
            skipBlanks();
            int from = at;
            if (!isDigit(at)) {
                return refuse(from, FAULT_PLACE);
            }
            int number = readNumber();
            if (number < LEAST_TOLD[what] || number > MOST_TOLD[what]) {
                return refuse(from, FAULT_NUMBER);
            }
            into.told[what] = number;
            return true;
        }

        /** Every or waits for what its right side's ands join. */
        private boolean readEither(int depth) {
            boolean isAnd = false;
            boolean orWaits = false;
            for (int i = 0; i <= length && readOne(depth); i++) {
                if (isAnd) {
                    into.addProof(JOINT_AND);
                }
                isAnd = isNextWord(AND);
                if (isAnd) {
                    at += 3;
                    continue;
                }
                if (orWaits) {
                    into.addProof(JOINT_OR);
                }
                orWaits = isNextWord(OR);
                if (!orWaits) {
                    return true;
                }
                at += 2;
            }
            return false;
        }

        private boolean readOne(int depth) {
            boolean isNot = isNextWord(NOT);
            if (!isNot && !isByte('(')) {
                return readTerm();
            }
            if (depth >= MOST_DEEP) {
                return refuse(at, FAULT_DEEP);
            }
            if (isNot) {
                at += 3;
                if (!readOne(depth + 1)) {
                    return false;
                }
                into.addProof(JOINT_NOT);
                return true;
            }
            at++;
            if (!readEither(depth + 1)) {
                return false;
            }
            skipBlanks();
            if (!isByte(')')) {
                return refuse(at, FAULT_PLACE);
            }
            at++;
            return true;
        }

        private boolean readTerm() {
            skipBlanks();
            int from = at;
            int left = readWord(FACTS);
            if (left < 0) {
                return refuse(from, FAULT_PLACE);
            }
            if (terms >= MOST_TERMS) {
                return refuse(from, FAULT_TERMS);
            }
            terms++;
            int sign = readSign();
            if (sign == 0) {
                return refuse(at, FAULT_PLACE);
            }
            skipBlanks();
            from = at;
            boolean isWord = !isDigit(at);
            int right = isWord ? readWord(FACTS) : readNumber();
            if (right < 0) {
                return refuse(from, isWord ? FAULT_PLACE : FAULT_NUMBER);
            }
            into.addProof(Act.term(left, sign, isWord, right));
            return true;
        }

        /** The SIGN as what may hold: LESS, EQUAL, GREATER, or 0 without one. */
        private int readSign() {
            skipBlanks();
            int sign = isByte('<') ? LESS : isByte('>') ? GREATER : 0;
            if (sign != 0) {
                at++;
            }
            if (isByte('=')) {
                at++;
                sign |= EQUAL;
            }
            return sign;
        }

        /** The number of the WORD here among those names, NONE without; it is passed over then. */
        private int readWord(String names) {
            skipBlanks();
            int to = wordEnd();
            for (int k = 0; to > at && k + SLOT <= names.length(); k += SLOT) {
                if (isSlot(names, k, to)) {
                    at = to;
                    return k / SLOT;
                }
            }
            return NONE;
        }

        private boolean isNextWord(String name) {
            skipBlanks();
            int to = wordEnd();
            return to > at && isSlot(name, 0, to);
        }

        private boolean isSlot(String names, int slot, int to) {
            if (to - at > SLOT) {
                return false;
            }
            for (int i = 0; i < SLOT && slot + i < names.length(); i++) {
                int due = at + i < to ? text[at + i] : ' ';
                if (names.charAt(slot + i) != due) {
                    return false;
                }
            }
            return true;
        }

        private int wordEnd() {
            int to = at;
            while (to < length && text[to] >= 'a' && text[to] <= 'z') {
                to++;
            }
            return to;
        }

        /** The NUMBER here, NONE if it has too many digits. */
        private int readNumber() {
            int from = at;
            int number = 0;
            while (at < length && isDigit(at)) {
                if (at - from < MOST_DIGITS) {
                    number = number * 10 + text[at] - '0';
                }
                at++;
            }
            return at - from > MOST_DIGITS ? NONE : number;
        }

        private boolean isDigit(int place) {
            return place < length && text[place] >= '0' && text[place] <= '9';
        }

        private boolean isByte(char due) {
            return at < length && text[at] == due;
        }

        private void skipBlanks() {
            while (at < length && text[at] == ' ') {
                at++;
            }
        }

        private boolean refuse(int place, int why) {
            fault = 1 + 8 * place + why;
            return false;
        }
    }

    private static final class Person {
        final int number;
        final int born;
        final int kin;
        int earns;
        int heads;
        int x;
        int y;
        boolean dead;
        boolean isJudge;
        boolean wasJudge;

        Person(int number, int born, int kin) {
            this.number = number;
            this.born = born;
            this.kin = kin;
        }

        void tell(int earnings, int fed, int doorX, int doorY) {
            earns = earnings;
            heads = fed;
            x = doorX;
            y = doorY;
        }

        int meansBy(Act act) {
            return earns - act.told[KEEP] * heads;
        }

        boolean maySit(Claim one) {
            return isJudge && !dead && !isKinOf(one.plaintiff) && !isKinOf(one.defendant);
        }

        private boolean isKinOf(Person him) {
            return this == him || kin != NONE && kin == him.kin;
        }
    }

    /** All LINES, in the order told. */
    private static final class Books {
        int count;
        private final int[] owner = new int[MOST_LINES];
        private final int[] with = new int[MOST_LINES];
        private final int[] day = new int[MOST_LINES];
        private final int[] kind = new int[MOST_LINES];
        private final int[] sum = new int[MOST_LINES];
        private final int[] byDay = new int[MOST_LINES];
        private final boolean[] taken = new boolean[MOST_LINES];

        void addLine(int owns, int otherOne, int on, int told, int much) {
            if (count >= MOST_LINES) {
                return;
            }
            owner[count] = owns;
            with[count] = otherOne;
            day[count] = on;
            kind[count] = told;
            sum[count] = much;
            int place = count;
            while (place > 0 && day[byDay[place - 1]] > on) {
                byDay[place] = byDay[place - 1];
                place--;
            }
            byDay[place] = count;
            count++;
        }

        int sumWith(int p, int q, int upTo) {
            int all = 0;
            for (int i = 0; i < count; i++) {
                if (isLine(i, p, q, upTo)) {
                    all += kind[i] == 0 || kind[i] == 3 ? sum[i] : -sum[i];
                }
            }
            return all;
        }

        private boolean isLine(int i, int p, int q, int upTo) {
            return owner[i] == p && with[i] == q && day[i] <= upTo;
        }

        /** As all twins are as near, the earliest LINE with its earliest twin left never costs a pair. */
        int twinPairs(int p, int q, int upTo) {
            for (int i = 0; i < count; i++) {
                taken[i] = false;
            }
            int pairs = 0;
            for (int i = 0; i < count; i++) {
                if (isLine(byDay[i], p, q, upTo) && takeTwin(byDay[i], upTo)) {
                    pairs++;
                }
            }
            return pairs;
        }

        private boolean takeTwin(int mine, int upTo) {
            for (int i = 0; i < count; i++) {
                int his = byDay[i];
                if (!taken[his] && isLine(his, with[mine], owner[mine], upTo) && areTwins(mine, his)) {
                    taken[his] = true;
                    return true;
                }
            }
            return false;
        }

        private boolean areTwins(int mine, int his) {
            // Gave and got are 0 and 1, was paid and paid 2 and 3.
            return (kind[mine] ^ 1) == kind[his] && sum[mine] == sum[his] && Math.abs(day[mine] - day[his]) <= 3;
        }

        int disorder(int p) {
            int many = 0;
            int ahead = 0;
            for (int i = 0; i < count; i++) {
                if (owner[i] == p) {
                    many += day[i] < ahead ? 1 : 0;
                    ahead = day[i];
                }
            }
            return many;
        }
    }

    /** A CLAIM; DAYS on which nothing was done yet are NONE. */
    private static final class Claim {
        final int number;
        final Person plaintiff;
        final Person defendant;
        final Act act;
        final int[] facts = new int[FACT_COUNT];
        final int[] bench = new int[BENCH];
        int sum;
        int from;
        int filed;
        int tries;
        int found = NONE;
        int heard = NONE;
        int judged;
        int ordered = NONE;
        int weekly;
        int owed;
        int seized = NONE;
        int worth;
        int served = NONE;

        Claim(int number, Person plaintiff, Person defendant, Act act) {
            this.number = number;
            this.plaintiff = plaintiff;
            this.defendant = defendant;
            this.act = act;
            bench[0] = NONE;
            bench[1] = NONE;
            bench[2] = NONE;
        }

        boolean isOnBench(int person) {
            return bench[0] == person || bench[1] == person || bench[2] == person;
        }

        int costsBy(Act tells, boolean withOrder) {
            int costs = tries * tells.told[COST_SUMMONS] + tells.told[COST_HEARING];
            return withOrder ? costs + tells.told[COST_ORDER] : costs;
        }

        /** ORDERED, LATE and RIPE ones are just those with a REST: ahead of the ORDER and SERVED there is none. */
        boolean isOpen(Payments payments, int now) {
            return restOn(payments, now, now) > 0;
        }

        int stateOn(Payments payments, int d, int k) {
            if (!isDone(ordered, d)) {
                return stateAheadOfOrder(d);
            }
            if (isDone(served, d)) {
                return STATE_SERVED;
            }
            if (restOn(payments, d, k) == 0) {
                return STATE_CLEAR;
            }
            int missed = missedOn(payments, d, k);
            if (missed < act.told[LATE_AT]) {
                return STATE_ORDERED;
            }
            return missed < act.told[LATE_AT] + act.told[GAOL_AT] ? STATE_LATE : STATE_RIPE;
        }

        private int stateAheadOfOrder(int d) {
            if (isDone(heard, d)) {
                return judged == PROVED ? STATE_PROVED : STATE_AGAINST;
            }
            return isDone(found, d) ? STATE_FOUND : STATE_FILED;
        }

        int restOn(Payments payments, int d, int k) {
            return isDone(served, d) ? 0 : Math.max(0, balanceOn(payments, d, k));
        }

        int overOn(Payments payments, int d, int k) {
            return isDone(served, d) ? 0 : Math.max(0, -balanceOn(payments, d, k));
        }

        int missedOn(Payments payments, int d, int k) {
            if (!isDone(ordered, d) || isDone(served, d)) {
                return 0;
            }
            int due = Math.min(owedOn(d), weekly * ((d - ordered) / 7));
            return roundUp(due - paidOn(payments, d, k), weekly);
        }

        int balanceOn(Payments payments, int d, int k) {
            return isDone(ordered, d) ? owedOn(d) - paidOn(payments, d, k) : 0;
        }

        int paidOn(Payments payments, int d, int k) {
            int goods = isDone(seized, d) ? worth : 0;
            return isDone(ordered, d) ? payments.sumFor(number, d, k) + goods : 0;
        }

        private int owedOn(int d) {
            return isDone(seized, d) ? owed + act.told[COST_SEIZURE] : owed;
        }

        private static boolean isDone(int on, int d) {
            return on != NONE && on <= d;
        }
    }

    /** All PAYMENTS, by their numbers. */
    private static final class Payments {
        int count;
        final int[] struck = new int[MOST_PAYMENTS];
        private final int[] of = new int[MOST_PAYMENTS];
        private final int[] day = new int[MOST_PAYMENTS];
        private final int[] known = new int[MOST_PAYMENTS];
        private final int[] sum = new int[MOST_PAYMENTS];

        int addPayment(int claimNumber, int on, int now, int much) {
            if (count >= MOST_PAYMENTS) {
                return NONE;
            }
            of[count] = claimNumber;
            day[count] = on;
            known[count] = now;
            sum[count] = much;
            struck[count] = NONE;
            count++;
            return count - 1;
        }

        int sumFor(int claimNumber, int d, int k) {
            int all = 0;
            for (int i = 0; i < count; i++) {
                boolean isStruck = struck[i] != NONE && struck[i] <= k;
                if (of[i] == claimNumber && day[i] <= d && known[i] <= k && !isStruck) {
                    all += sum[i];
                }
            }
            return all;
        }
    }

    /** INSTALMENTS PLANNED: what is open now, and what the latest plan told of it. */
    private static final class Plan {
        int open;
        int told;
        final int[] claims = new int[MOST_PLANNED];
        final int[] weekly = new int[MOST_PLANNED];
        final int[] weeks = new int[MOST_PLANNED];
        private final int[] opened = new int[MOST_PLANNED];
        private final int[] rest = new int[MOST_PLANNED];
        private final int[] least = new int[MOST_PLANNED];
        private final int[] tried = new int[MOST_PLANNED];
        private int unit;
        private int means;
        private int bestLast;
        private int bestAll;

        void clear(int byUnit, int ofMeans) {
            open = 0;
            unit = byUnit;
            means = ofMeans;
        }

        void addOpen(Claim one, int left) {
            if (open < MOST_PLANNED) {
                opened[open] = one.number;
                rest[open] = left;
                least[open] = Math.min(one.act.told[WEEK], left);
                open++;
            }
        }

        int settle() {
            if (open > 0 && leastFrom(0) > means) {
                return TOO_LITTLE;
            }
            bestLast = FAR;
            bestAll = FAR;
            tryFrom(0, 0, 0, 0);
            for (int i = 0; i < open; i++) {
                claims[i] = opened[i];
                weeks[i] = roundUp(rest[i], weekly[i]);
            }
            told = open;
            return bestLast;
        }

        private int leastFrom(int place) {
            int all = 0;
            for (int i = place; i < open; i++) {
                all += least[i];
            }
            return all;
        }

        /** Tries the lesser instalments first, so that of equal plans the first one stays. */
        private void tryFrom(int place, int spent, int last, int all) {
            if (place >= open) {
                keepIfBetter(last, all);
                return;
            }
            int others = leastFrom(place + 1);
            for (int more = 0; more <= MOST_UNITS; more++) {
                int w = least[place] + more * unit;
                if (spent + w + others > means) {
                    return;
                }
                int needs = roundUp(rest[place], w);
                tried[place] = w;
                if (needs <= bestLast) {
                    tryFrom(place + 1, spent + w, Math.max(last, needs), all + needs);
                }
            }
        }

        private void keepIfBetter(int last, int all) {
            if (last < bestLast || last == bestLast && all < bestAll) {
                bestLast = last;
                bestAll = all;
                System.arraycopy(tried, 0, weekly, 0, open);
            }
        }
    }

    /** Who owes whom how much, the best ring of it, and the LEASTS that the latest net() took off. */
    private static final class Rings {
        // Ahead of every net() there is no number of rings, which is not the same as none netted.
        int count = NONE;
        int bestLength;
        int bestLeast;
        final int[] leasts = new int[MOST_CLAIMS];
        private int size;
        private final int[] owes = new int[MOST_PERSONS * MOST_PERSONS];
        private final int[] ring = new int[LONGEST_RING];
        private final int[] best = new int[LONGEST_RING];

        void clear(int persons) {
            size = persons;
            count = 0;
            for (int i = 0; i < owes.length; i++) {
                owes[i] = 0;
            }
        }

        void owe(int q, int p, int sum) {
            owes[q * MOST_PERSONS + p] += sum;
        }

        boolean findBest() {
            bestLength = 0;
            bestLeast = 0;
            for (int first = 0; first < size; first++) {
                ring[0] = first;
                goOn(1, FAR);
            }
            return bestLength > 0;
        }

        /** Goes on from the last of so many in the ring, by numbers: of equal rings the first one stays. */
        private void goOn(int length, int least) {
            int debts = ring[length - 1] * MOST_PERSONS;
            if (length > 1) {
                keepIfBetter(length, Math.min(least, owes[debts + ring[0]]));
            }
            for (int next = ring[0] + 1; next < size && length < LONGEST_RING; next++) {
                int owed = owes[debts + next];
                if (owed > 0 && owed >= bestLeast && !isInRing(next, length)) {
                    ring[length] = next;
                    goOn(length + 1, Math.min(least, owed));
                }
            }
        }

        private boolean isInRing(int person, int length) {
            for (int i = 0; i < length; i++) {
                if (ring[i] == person) {
                    return true;
                }
            }
            return false;
        }

        private void keepIfBetter(int length, int least) {
            if (least > bestLeast || least == bestLeast && length < bestLength) {
                bestLeast = least;
                bestLength = length;
                System.arraycopy(ring, 0, best, 0, length);
            }
        }

        boolean isDebt(int place, Claim one) {
            return one.defendant.number == best[place] && one.plaintiff.number == best[placeAfter(place)];
        }

        private int placeAfter(int place) {
            return place + 1 < bestLength ? place + 1 : 0;
        }

        void takeOff() {
            for (int i = 0; i < bestLength; i++) {
                owes[best[i] * MOST_PERSONS + best[placeAfter(i)]] -= bestLeast;
            }
            if (count >= 0 && count < MOST_CLAIMS) {
                leasts[count] = bestLeast;
                count++;
            }
        }
    }

    /** THE BEADLE'S WALK: the list, and the order of the latest walk. */
    private static final class Walk {
        private static final int COURT = 50;
        int listed;
        int walked;
        final int[] latest = new int[MOST_WALKED];
        private final Claim[] list = new Claim[MOST_WALKED];
        /** By the CLAIMS that were walked to (a bit each) and the last one: the steps to the others and home. */
        private final int[] left = new int[MOST_WALKED << MOST_WALKED];

        boolean isListed(Claim one) {
            for (int i = 0; i < listed; i++) {
                if (list[i] == one) {
                    return true;
                }
            }
            return false;
        }

        /** Keeps the list by numbers, so that the first way by places is the first by CLAIMS. */
        void putOnList(Claim one) {
            if (listed >= MOST_WALKED) {
                return;
            }
            int place = listed;
            while (place > 0 && list[place - 1].number > one.number) {
                list[place] = list[place - 1];
                place--;
            }
            list[place] = one;
            listed++;
        }

        int walkList() {
            int all = (1 << listed) - 1;
            for (int been = all; been > 0; been--) {
                for (int last = 0; last < listed; last++) {
                    if (isIn(last, been)) {
                        left[been * MOST_WALKED + last] = been == all ? fromCourt(last) : leastOn(been, last);
                    }
                }
            }
            int steps = listed == 0 ? 0 : leastOn(0, NONE);
            retrace(steps);
            walked = listed;
            listed = 0;
            return steps;
        }

        private int leastOn(int been, int last) {
            int least = FAR;
            for (int next = 0; next < listed; next++) {
                if (!isIn(next, been)) {
                    least = Math.min(least, stepsBy(been, last, next));
                }
            }
            return least;
        }

        private void retrace(int steps) {
            int been = 0;
            int last = NONE;
            int due = steps;
            for (int k = 0; k < listed; k++) {
                int next = firstOnWay(been, last, due);
                latest[k] = list[next].number;
                been |= 1 << next;
                last = next;
                due = left[been * MOST_WALKED + last];
            }
        }

        private int firstOnWay(int been, int last, int due) {
            for (int next = 0; next < listed; next++) {
                if (!isIn(next, been) && stepsBy(been, last, next) == due) {
                    return next;
                }
            }
            return 0;
        }

        private int stepsBy(int been, int last, int next) {
            int steps = last == NONE ? fromCourt(next) : between(list[last].defendant, list[next].defendant);
            return steps + left[(been | 1 << next) * MOST_WALKED + next];
        }

        private static boolean isIn(int place, int been) {
            return (been >> place & 1) == 1;
        }

        private int fromCourt(int place) {
            Person one = list[place].defendant;
            return Math.abs(one.x - COURT) + Math.abs(one.y - COURT);
        }

        private static int between(Person one, Person another) {
            return Math.abs(one.x - another.x) + Math.abs(one.y - another.y);
        }
    }
}
