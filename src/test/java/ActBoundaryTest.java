/** The boundary cases of promises 1 to 6 and of chapter I (DAYS, ACTS), sentence by sentence. */
public final class ActBoundaryTest {
    private static final int[] WITHOUT = {-1, 480, 30, 12, 60, 2, 4, 1, 40, 21, 0, 0, 0, 0};
    private static final String[] WORDS = {"", "most", "split", "week", "keep", "late", "gaol", "gaol 20", "longest",
        "age", "cost summons", "cost hearing", "cost order", "cost seizure"};
    private static final int[] LEAST = {0, 1, 0, 1, 0, 1, 1, 1, 1, 0, 0, 0, 0, 0};
    private static final int[] MOST = {0, 9999, 365, 999, 999, 20, 20, 30, 400, 40, 999, 999, 999, 999};
    private static final String ALL = "most 1;split 2;week 3;keep 4;late 5;gaol 6 7;longest 8;age 9;cost summons 10;"
        + "cost hearing 11;cost order 12;cost seizure 13";

    public static void main(String[] args) {
        newObject();
        twoObjects();
        clock();
        feed();
        feedSigns();
        end();
        actNumbers();
        actRefused();
        tapeIsEmptyThen();
        blanksAlone();
        fullText();
        cutText();
        numbers();
        digits();
        bytes();
        theEnd();
        toldTwice();
        deep();
        terms();
        truths();
        wordsAgainstWords();
        firstAlongIt();
        leastOfOnePlace();
        signs();
        force();
        inForce();
        asItWasThen();
        Trial.end();
    }

    private static SmallCourt tapeOf(int many) {
        SmallCourt x = new SmallCourt();
        for (int i = 0; i < 20; i++) {
            x.feed(0x20202020, 0x20202020, 0x20202020, 0x20202020, 0x20202020);
        }
        x.end(many);
        return x;
    }

    private static SmallCourt full() {
        return tapeOf(400);
    }

    private static String blanks(int many) {
        return " ".repeat(many);
    }

    private static int told(String text) {
        return Trial.act(new SmallCourt(), 0, text);
    }

    private static void fine(String text) {
        Trial.due("act of '" + text + "'", told(text), 0);
    }

    private static void faulty(String text, int place, int kind) {
        Trial.due("act of '" + text + "'", told(text), Trial.fault(place, kind));
    }

    private static int valueOf(String text, int what) {
        SmallCourt x = new SmallCourt();
        Trial.act(x, 0, text);
        return x.force(0, what);
    }

    private static void newObject() {
        Trial.says("1: No ACTS, no PERSONS; DAY 0");
        SmallCourt x = new SmallCourt();
        for (int what = 0; what < 9; what++) {
            Trial.due("count(" + what + ")", x.count(what), 0);
        }
        for (int what = 0; what < 14; what++) {
            Trial.due("force(0, " + what + ")", x.force(0, what), WITHOUT[what]);
            Trial.due("force(7999, " + what + ")", x.force(7999, what), WITHOUT[what]);
        }
        Trial.due("end(0)", x.end(0), 0);
        Trial.due("walk()", x.walk(), 0);
        Trial.due("net()", x.net(), 0);
        for (int what = 1; what < 7; what++) {
            Trial.due("other(NONE, " + what + ")", x.other(-1, what), 0);
        }
        for (int k = -1; k < 2; k++) {
            refusedOfAnEmptyOne(k);
        }
    }

    private static void refusedOfAnEmptyOne(int k) {
        Trial.Made made = SmallCourt::new;
        Trial.refused(made, "anew " + k, x -> Trial.n(x.anew(k, 0, 1, 0, 0)), 0);
        Trial.refused(made, "dies " + k, x -> Trial.n(x.dies(k)), 0);
        Trial.refused(made, "judge " + k, x -> Trial.n(x.judge(k, true)), 0);
        Trial.refused(made, "line " + k, x -> x.line(k, 1 - k, 0, 0, 1), -1);
        Trial.refused(made, "book " + k, x -> x.book(k, 1 - k, 0, 0), Trial.NO_SUM);
        Trial.refused(made, "file " + k, x -> x.file(k, 1 - k, 1, 0, false, 0), -1);
        Trial.refused(made, "summons " + k, x -> x.summons(k, true), -1);
        Trial.refused(made, "hear " + k, x -> x.hear(k, true, false, 0), -1);
        Trial.refused(made, "order " + k, x -> x.order(k, 12), -1);
        Trial.refused(made, "pay " + k, x -> x.pay(k, 0, 1), -1);
        Trial.refused(made, "strike " + k, x -> Trial.n(x.strike(k)), 0);
        Trial.refused(made, "seize " + k, x -> x.seize(k, 1), Trial.NO_SUM);
        Trial.refused(made, "gaol " + k, x -> x.gaol(k), -1);
        Trial.refused(made, "claim " + k, x -> x.claim(k, 2), -1);
        Trial.refused(made, "state " + k, x -> x.state(k, 0, 0, 0), -1);
        Trial.refused(made, "plan " + k, x -> x.plan(k, 1), -1);
        Trial.refused(made, "planned " + k, x -> x.planned(k, 0), -1);
        Trial.refused(made, "netted " + k, x -> x.netted(k), -1);
        Trial.refused(made, "list " + k, x -> x.list(k), -1);
        Trial.refused(made, "walked " + k, x -> x.walked(k), -1);
        Trial.refused(made, "habit " + k, x -> x.habit(k, 0), -1);
        if (k != -1) {
            Trial.refused(made, "other " + k, x -> x.other(k, 1), -1);
        }
    }

    private static void twoObjects() {
        Trial.says("1: a new object, whatever another one was told");
        Trial.busy();
        SmallCourt x = new SmallCourt();
        for (int what = 0; what < 9; what++) {
            Trial.due("count(" + what + ")", x.count(what), 0);
        }
        Trial.due("force(60, 1)", x.force(60, 1), 480);
        Trial.due("its first ACT", x.act(0), 0);
    }

    private static void clock() {
        Trial.says("2: NOW is a DAY (0 to 7999), its own or a later one; false, and nothing happens, for others");
        Trial.edges(Trial::busy, "clock", (x, n) -> Trial.n(x.clock(n)), 30, 7999, 0);
        Trial.edges(SmallCourt::new, "clock", (x, n) -> Trial.n(x.clock(n)), 0, 7999, 0);
        SmallCourt x = new SmallCourt();
        Trial.due("its own", x.clock(0), true);
        Trial.due("a later one", x.clock(1), true);
        Trial.due("NOW", x.count(0), 1);
        Trial.due("the one ahead", x.clock(0), false);
        Trial.due("NOW", x.count(0), 1);
        Trial.due("the last one", x.clock(7999), true);
        Trial.due("the last one again", x.clock(7999), true);
        Trial.due("the last but one", x.clock(7998), false);
        Trial.due("one behind", x.clock(8000), false);
        Trial.due("NOW", x.count(0), 7999);
    }

    private static void feed() {
        Trial.says("3: how many it has; NONE, and none comes: it would have more than 400");
        SmallCourt x = new SmallCourt();
        for (int i = 1; i < 21; i++) {
            Trial.due("feed " + i, x.feed(0, 0, 0, 0, 0), 20 * i);
        }
        Trial.due("more than 400", x.feed(0, 0, 0, 0, 0), -1);
        for (int had : new int[] {381, 382, 390, 399, 400}) {
            Trial.refused(() -> tapeOf(had), "behind " + had, y -> y.feed(-1, -1, -1, -1, -1), -1);
        }
        Trial.due("behind 380", tapeOf(380).feed(-1, -1, -1, -1, -1), 400);
        Trial.due("behind 379", tapeOf(379).feed(-1, -1, -1, -1, -1), 399);
        Trial.due("behind none", new SmallCourt().feed(-1, -1, -1, -1, -1), 20);
        x = tapeOf(381);
        x.feed(-1, -1, -1, -1, -1);
        Trial.due("none came: blanks alone", x.act(0), 0);
    }

    private static void feedSigns() {
        Trial.says("3: twenty bytes come behind the TAPE, of each number the highest first");
        SmallCourt x = tapeOf(3);
        x.feed(0x6d6f7374, 0x2031323b, 0x7765656b, 0x20333b61, 0x67652035);
        Trial.due("'   most 12;week 3;age 5'", x.act(0), 0);
        Trial.due("most", x.force(0, 1), 12);
        Trial.due("week", x.force(0, 3), 3);
        Trial.due("age", x.force(0, 9), 5);
        for (int place = 0; place < 20; place++) {
            for (int sign : new int[] {0, 127, 128, 160, 255}) {
                int[] f = {0x20202020, 0x20202020, 0x20202020, 0x20202020, 0x20202020};
                f[place / 4] ^= (0x20 ^ sign) << 24 - place % 4 * 8;
                x = tapeOf(3);
                x.feed(f[0], f[1], f[2], f[3], f[4]);
                Trial.due("a byte " + sign + " at " + place, x.act(0), Trial.fault(place + 3, 0));
            }
        }
        x = new SmallCourt();
        x.feed(Integer.MIN_VALUE, 0, 0, 0, Integer.MAX_VALUE);
        x.end(1);
        Trial.due("the least number's highest byte is 128", x.act(0), Trial.fault(0, 0));
    }

    private static void end() {
        Trial.says("4: n; NONE, and nothing happens, if it has not so many, or n is below 0");
        Trial.edges(() -> tapeOf(20), "end", SmallCourt::end, 0, 20, -1);
        Trial.edges(ActBoundaryTest::full, "end", SmallCourt::end, 0, 400, -1);
        Trial.edges(SmallCourt::new, "end", SmallCourt::end, 0, 0, -1);
        Trial.edges(Trial::busy, "end", SmallCourt::end, 0, 6, -1);
        SmallCourt x = full();
        Trial.due("end(400)", x.end(400), 400);
        Trial.due("end(399)", x.end(399), 399);
        Trial.due("end(400)", x.end(400), -1);
        Trial.due("bytes", x.count(7), 399);
        Trial.due("end(0)", x.end(0), 0);
        Trial.due("end(1)", x.end(1), -1);
        Trial.due("bytes", x.count(7), 0);
    }

    private static void actNumbers() {
        Trial.says("5: its number; NONE: there are 8");
        SmallCourt x = new SmallCourt();
        for (int i = 0; i < 8; i++) {
            Trial.due("a FAULT takes no number", Trial.act(x, 0, "x"), Trial.fault(0, 0));
            Trial.due("ACT " + i, Trial.act(x, 0, "most " + (i + 1)), i);
            Trial.due("ACTS", x.count(1), i + 1);
        }
        Trial.due("a ninth", Trial.act(x, 0, "most 9"), -1);
        Trial.due("its TAPE stays", x.count(7), 6);
        Trial.due("ACTS", x.count(1), 8);
        Trial.due("the eighth is IN FORCE", x.force(0, 0) * 10 + x.force(0, 1), 78);
        Trial.due("the eighth as ANOTHER ACT", x.other(7, 5), 0);
    }

    private static SmallCourt eightActs() {
        SmallCourt x = new SmallCourt();
        for (int i = 0; i < 8; i++) {
            Trial.act(x, i, "most " + (i + 1));
        }
        Trial.write(x, "week 7");
        return x;
    }

    private static void actRefused() {
        Trial.says("5: NONE, and nothing happens: there are 8, or no such DAY");
        Trial.edges(Trial::busy, "act", SmallCourt::act, 0, 7999, -1);
        Trial.refused(ActBoundaryTest::eightActs, "a ninth", x -> x.act(0), -1);
        SmallCourt x = new SmallCourt();
        for (int day : new int[] {-1, 8000}) {
            Trial.write(x, "most");
            Trial.due("no such DAY, ahead of its FAULT", x.act(day), -1);
            Trial.due("the TAPE stays", x.count(7), 4);
            Trial.due("its FAULT on a DAY", x.act(0), Trial.fault(4, 0));
        }
        x = eightActs();
        Trial.write(x, "most");
        Trial.due("a ninth, ahead of its FAULT", x.act(0), -1);
        Trial.due("the TAPE stays", x.count(7), 4);
        Trial.due("a ninth of no such DAY", x.act(-1), -1);
    }

    private static void tapeIsEmptyThen() {
        Trial.says("5: the TAPE, which is empty then, is an ACT: its number; -2 - its FAULT");
        SmallCourt x = full();
        Trial.due("an ACT", x.act(0), 0);
        Trial.due("empty", x.count(7), 0);
        Trial.due("the next comes from its start", x.feed(0, 0, 0, 0, 0), 20);
        Trial.due("a FAULT", x.act(0), Trial.fault(0, 0));
        Trial.due("empty", x.count(7), 0);
        Trial.due("no end behind that", x.end(1), -1);
        Trial.due("the least FAULT is 1", Trial.fault(0, 0), -3);
        Trial.act(x, 3, "most 5;x");
        Trial.due("a FAULT is no ACT", x.count(1), 1);
        Trial.due("a FAULT is not IN FORCE", x.force(3, 1), 480);
        Trial.due("nor ANOTHER ACT", x.other(1, 1), -1);
    }

    private static void blanksAlone() {
        Trial.says("I: a text of blanks alone: all as without");
        for (int many : new int[] {0, 1, 20, 399, 400}) {
            SmallCourt x = tapeOf(many);
            Trial.due(many + " blanks", x.act(5), 0);
            Trial.due("the ACT itself", x.force(5, 0), 0);
            for (int what = 1; what < 14; what++) {
                Trial.due("force(5, " + what + ")", x.force(5, what), WITHOUT[what]);
            }
        }
        for (int bits = 0; bits < 4; bits++) {
            SmallCourt x = Trial.court("  ");
            int claim = Trial.found(x, 0, 1, 5);
            boolean oath = bits > 1;
            boolean denied = bits % 2 == 1;
            Trial.due("prove: oath = 1 and denied = 0", x.hear(claim, oath, denied, 0), bits == 2 ? 5 : 4);
        }
    }

    private static void fullText() {
        Trial.says("I: a text of at most 400 bytes");
        Trial.due("a NUMBER up to the last byte", valueOf(blanks(391) + "most 1234", 1), 1234);
        Trial.due("a NUMBER up to the last byte but one", valueOf(blanks(390) + "most 1234 ", 1), 1234);
        Trial.due("a CLAUSE first", valueOf("most 12" + blanks(393), 1), 12);
        Trial.due("a CLAUSE behind", valueOf("most 12" + blanks(386) + ";late 9", 5), 9);
        faulty(blanks(399) + "x", 399, 0);
        faulty(blanks(399) + "m", 399, 0);
        faulty(blanks(396) + "most", 400, 0);
        faulty(blanks(395) + "most ", 400, 0);
        faulty("most 1" + blanks(393) + ";", 400, 0);
        faulty(blanks(394) + "most 0", 399, 1);
        faulty("most 1;" + blanks(387) + "most 2", 394, 2);
        faulty("prove " + blanks(387) + "oath=1(", 399, 0);
        faulty("prove " + blanks(389) + "oath=", 400, 0);
        fine("prove " + blanks(388) + "oath=1");
    }

    private static void cutText() {
        Trial.says("4: the TAPE has its first n bytes alone (what was behind them is no text)");
        SmallCourt x = new SmallCourt();
        String[] texts = {"most 1234", "most 12;x", "most 12 x", "most 12y", "most 12)"};
        for (int i = 0; i < texts.length; i++) {
            Trial.write(x, texts[i]);
            x.end(7);
            Trial.due("'" + texts[i] + "' by 7", x.act(i), i);
            Trial.due("most of it", x.force(i, 1), 12);
        }
        Trial.write(x, "most 12;week 3");
        x.end(8);
        Trial.due("by 8", x.act(0), Trial.fault(8, 0));
        Trial.write(x, "most 12;week 3");
        x.end(10);
        Trial.due("within a WORD", x.act(0), Trial.fault(8, 0));
        Trial.write(x, "prove oath<=1");
        x.end(11);
        Trial.due("ahead of =", x.act(0), Trial.fault(11, 0));
    }

    private static void numbers() {
        for (int what = 1; what < 14; what++) {
            String word = WORDS[what];
            String behind = what == 6 ? " 30" : "";
            int place = word.length() + 1;
            Trial.says("I: " + word + " n (" + LEAST[what] + " to " + MOST[what] + ")");
            for (int n : new int[] {LEAST[what], LEAST[what] + 1, MOST[what] - 1, MOST[what]}) {
                fine(word + " " + n + behind);
                Trial.due("n of " + n, valueOf(word + " " + n + behind, what), n);
            }
            if (MOST[what] < 9999) {
                faulty(word + " " + (MOST[what] + 1) + behind, place, 1);
                faulty(word + " 9999" + behind, place, 1);
            }
            if (LEAST[what] > 0) {
                faulty(word + " 0" + behind, place, 1);
                faulty(word + " 0000" + behind, place, 1);
            }
            faulty(word + " " + "10000" + behind, place, 1);
            faulty(word + " -1" + behind, place, 0);
            faulty(word + behind.replace(" 30", ""), word.length(), 0);
            Trial.says("I: as without: " + word);
            for (int k = 1; k < 14; k++) {
                if (k != what && !(what == 7 && k == 6) && !(what == 6 && k == 7)) {
                    Trial.due("force(0, " + k + ") of " + word, valueOf(word + " " + MOST[what] + behind, k), WITHOUT[k]);
                }
            }
        }
        Trial.says("I: gaol n d");
        Trial.due("n", valueOf("gaol 20 1", 6) * 100 + valueOf("gaol 20 1", 7), 2001);
        Trial.due("d", valueOf("gaol 1 30", 6) * 100 + valueOf("gaol 1 30", 7), 130);
        faulty("gaol 21 31", 5, 1);
    }

    private static void digits() {
        Trial.says("I: NUMBERS 1 to 4 digits (as far as digits go on)");
        Trial.due("1 digit", valueOf("most 7", 1), 7);
        Trial.due("4 digits", valueOf("most 0007", 1), 7);
        Trial.due("4 digits", valueOf("most 9999", 1), 9999);
        Trial.due("zeros ahead", valueOf("late 0020", 5), 20);
        faulty("most 00007", 5, 1);
        faulty("most 000000000000000000000000000000000001", 5, 1);
        faulty("most 4294967301", 5, 1);
        faulty("split 18446744073709551616", 6, 1);
        faulty("gaol 20301", 5, 1);
        faulty("gaol 20 00030", 8, 1);
        faulty("cost order 00000", 11, 1);
        Trial.says("I: 1 a NUMBER not as told (in an EITHER: of more digits)");
        fine("prove own=0");
        fine("prove own=0000");
        fine("prove own=9999");
        faulty("prove own=10000", 10, 1);
        faulty("prove own=00000", 10, 1);
        faulty("prove own=4294967296", 10, 1);
        faulty("prove own=-1", 10, 0);
        faulty("prove own=12 34", 13, 0);
    }

    private static void bytes() {
        Trial.says("I: 0 a byte or WORD that can't stand there; blanks (32) between");
        for (int b = 0; b < 256; b++) {
            char sign = (char) b;
            boolean isBlank = b == 32;
            boolean isDigit = b >= '0' && b <= '9';
            Trial.due("the byte " + b + " alone", told("" + sign), isBlank ? 0 : Trial.fault(0, 0));
            Trial.due("the byte " + b + " behind", told("most 5 " + sign),
                isBlank ? 0 : Trial.fault(b == ';' ? 8 : 7, 0));
            Trial.due("the byte " + b + " at a NUMBER", told("most 5" + sign),
                isBlank || isDigit ? 0 : Trial.fault(b == ';' ? 7 : 6, 0));
            Trial.due("the byte " + b + " for a NUMBER", told("late " + sign),
                b == '0' ? Trial.fault(5, 1) : isDigit ? 0 : Trial.fault(isBlank ? 6 : 5, 0));
            Trial.due("the byte " + b + " behind an EITHER", told("prove oath=1 " + sign),
                isBlank ? 0 : Trial.fault(b == ';' ? 14 : 13, 0));
            Trial.due("the byte " + b + " for a STEP", told("cost " + sign), Trial.fault(isBlank ? 6 : 5, 0));
            Trial.due("the byte " + b + " for a ONE", told("prove " + sign), Trial.fault(isBlank || b == '(' ? 7 : 6, 0));
            int sig = b == '<' || b == '>' || b == '=' ? 11 : isBlank ? 11 : b >= 'a' && b <= 'z' ? 6 : 10;
            Trial.due("the byte " + b + " for a SIGN", told("prove oath" + sign), Trial.fault(sig, 0));
            Trial.due("the byte " + b + " for a RIGHT", told("prove oath=" + sign),
                isDigit ? 0 : Trial.fault(isBlank ? 12 : 11, 0));
        }
        for (String word : new String[] {"mos", "mostt", "costs", "prov", "proves", "summons", "oath", "not", "and", "or",
            "a", "zzzzzzzzzzzz", "mostweek"}) {
            faulty("  " + word + " 5", 2, 0);
        }
        for (String step : new String[] {"summon", "summonss", "hear", "orders", "seize", "most", "oath", "cost"}) {
            faulty("cost " + step + " 5", 5, 0);
        }
        for (String fact : new String[] {"oat", "oaths", "claim", "claimedd", "most", "summons", "and", "or", "nots",
            "witnesss", "likes"}) {
            faulty("prove " + fact + "=1", 6, 0);
            faulty("prove own=" + fact, 10, 0);
        }
        faulty("prove own=not", 10, 0);
        faulty("prove oath=1 not", 13, 0);
        faulty("prove oath=1 nor own=1", 13, 0);
        faulty("prove oath=1 oath=1", 13, 0);
        faulty("prove oath=1 (oath=1)", 13, 0);
        faulty("prove (oath=1) (oath=1)", 15, 0);
        faulty("prove oath=1)", 12, 0);
        faulty("prove (oath=1))", 14, 0);
        faulty("prove ()", 7, 0);
        faulty("prove oath=1;=", 13, 0);
    }

    private static void theEnd() {
        Trial.says("I: 0 the end (behind the last byte)");
        String[] cut = {"most", "most ", "gaol", "gaol 4", "gaol 4  ", "cost", "cost ", "cost order", "prove", "prove (",
            "prove not", "prove oath", "prove oath<", "prove oath<=", "prove oath=1 and", "prove oath=1 or ",
            "prove (oath=1", "prove not (oath=1 ", "most 5;", "most 5; ", "prove oath=1;"};
        for (String text : cut) {
            faulty(text, text.length(), 0);
        }
    }

    private static void toldTwice() {
        for (int what = 1; what < 10; what++) {
            if (what != 7) {
                Trial.says("I: 2 a CLAUSE told twice (at its WORD): " + WORDS[what]);
                String clause = WORDS[what] + " 1" + (what == 6 ? " 1" : "");
                faulty(clause + "; " + clause, clause.length() + 2, 2);
                faulty(clause + ";age 41;" + clause, clause.length() + 1 + (what == 9 ? 0 : 4), what == 9 ? 2 : 1);
                faulty(clause + ";" + WORDS[what], clause.length() + 1, 2);
                faulty(clause + ";" + WORDS[what] + "x", clause.length() + 1, 0);
            }
        }
        Trial.says("I: 2 a CLAUSE told twice (at its WORD): prove");
        faulty("prove own=1;week 3;prove own=2", 19, 2);
        faulty("prove own=1;prove", 12, 2);
        Trial.says("I: 2 of cost at the STEP; each (each STEP's cost) once at most");
        for (int what = 10; what < 14; what++) {
            faulty(WORDS[what] + " 1;cost  " + WORDS[what].substring(5) + " 1", WORDS[what].length() + 9, 2);
            faulty(WORDS[what] + " 1;" + WORDS[what], WORDS[what].length() + 8, 2);
            faulty(WORDS[what] + " 1;cost", WORDS[what].length() + 7, 0);
        }
        fine("most 5;split 5;week 5;keep 5;late 5;gaol 5 5;longest 5;age 5;cost summons 5;cost hearing 5;cost order 5;"
            + "cost seizure 5;prove note=1");
        fine("prove note=1;cost seizure 5;cost order 5;cost hearing 5;cost summons 5;age 5;longest 5;gaol 5 5;late 5;"
            + "keep 5;week 5;split 5;most 5");
    }

    private static void deep() {
        Trial.says("I: 3 a ( or not within eight others (at it)");
        for (int nots = 0; nots < 9; nots++) {
            String eight = "prove " + "not ".repeat(nots) + "(".repeat(8 - nots);
            String closed = ")".repeat(8 - nots);
            fine(eight + "own=1" + closed);
            fine(eight + "own=1" + closed + " and " + eight.substring(6) + "own=1" + closed);
            faulty(eight + "(own=1)" + closed, eight.length(), 3);
            faulty(eight + "not own=1" + closed, eight.length(), 3);
            faulty(eight + "  not", eight.length() + 2, 3);
            faulty(eight + "own=1 or (", eight.length() + (nots == 8 ? 10 : 9), nots == 8 ? 0 : 3);
        }
        faulty("prove ((((((((own=1) and not own=2 and (own=3", 45, 0);
        fine("prove ((((((((own=1) and not own=2)))))))");
        faulty("prove (((((((own=1 and not not own=2)))))))", 27, 3);
        fine("prove ((((((((own=1)))))))) or ((((((((own=1))))))))");
    }

    private static String twenty() {
        return "prove own<1" + " or own<1".repeat(19);
    }

    private static void terms() {
        Trial.says("I: 4 the 21st WORD SIGN RIGHT (at its first WORD)");
        int length = twenty().length();
        fine(twenty());
        fine(twenty() + ";most 5");
        faulty(twenty() + " or own<1", length + 4, 4);
        faulty(twenty() + " and  own<1", length + 6, 4);
        faulty(twenty() + " or own", length + 4, 4);
        faulty(twenty() + " or not (own<1)", length + 9, 4);
        faulty(twenty().replace("prove own<1", "prove (own<1)") + " or own<1", length + 6, 4);
        faulty(twenty() + " or", length + 3, 0);
        faulty("prove own<1" + " or own<1".repeat(30), length + 4, 4);
        Trial.says("I: 4 the 21st, of each text for itself");
        SmallCourt x = new SmallCourt();
        for (int i = 0; i < 4; i++) {
            Trial.due("twenty", Trial.act(x, 0, twenty()), i);
            Trial.due("21", Trial.act(x, 0, twenty() + " or own<1"), Trial.fault(length + 4, 4));
        }
        Trial.says("I: 2 a CLAUSE told twice, of each text for itself");
        for (int i = 4; i < 8; i++) {
            Trial.due("a FAULT behind its CLAUSES", Trial.act(x, 0, "most 7;cost order 7;prove own=7;x"), Trial.fault(32, 0));
            Trial.due("the same CLAUSES", Trial.act(x, 0, "most 7;cost order 7;prove own=7"), i);
        }
        Trial.says("I: twenty of them are held each for itself");
        String last = "prove own=1" + " or own=1".repeat(18) + " or claimed=7";
        Trial.due("the 20th alone holds", judged(last, 7), 5);
        Trial.due("none holds", judged(last, 8), 4);
        String nested = "prove " + "own=1 or (".repeat(8) + "claimed=7" + ")".repeat(8);
        Trial.due("the innermost alone holds", judged(nested, 7), 5);
        Trial.due("the innermost holds not", judged(nested, 8), 4);
        String nots = "prove " + "not ".repeat(8);
        Trial.due("eight nots", judged(nots + "claimed=7", 7), 5);
        Trial.due("seven nots", judged(nots.substring(0, nots.length() - 4) + "claimed=7", 7), 4);
        String many = "not ".repeat(7) + "claimed=7 ";
        Trial.due("nots over the whole text", judged("prove " + many + ("and " + many).repeat(8), 8), 5);
        Trial.due("nots over the whole text", judged("prove " + many + ("and " + many).repeat(8), 7), 4);
    }

    private interface Truth {
        boolean of(boolean a, boolean b, boolean c, boolean d);
    }

    /** JUDGED by a proof in which a is oath, b denied, c note and d a witness, for all that they may be. */
    private static void holds(String proof, Truth truth) {
        String text = "prove " + proof.replaceAll("\\ba\\b", "oath=1").replaceAll("\\bb\\b", "denied=1")
            .replaceAll("\\bc\\b", "note=1").replaceAll("\\bd\\b", "witness=1");
        for (int bits = 0; bits < 16; bits++) {
            boolean a = bits % 2 == 1;
            boolean b = bits / 2 % 2 == 1;
            boolean c = bits / 4 % 2 == 1;
            boolean d = bits / 8 == 1;
            SmallCourt x = Trial.court(text);
            Trial.due("ACTS", x.count(1), 1);
            x.file(0, 1, 5, 0, c, d ? 1 : 0);
            x.summons(0, true);
            Trial.due(proof + " by " + bits, x.hear(0, a, b, 0), truth.of(a, b, c, d) ? 5 : 4);
        }
    }

    private static void truths() {
        Trial.says("I: EITHER: BOTH { or BOTH }; BOTH: ONE { and ONE }; ONE: not ONE, ( EITHER )");
        holds("a", (a, b, c, d) -> a);
        holds("not a", (a, b, c, d) -> !a);
        holds("a or b", (a, b, c, d) -> a || b);
        holds("a and b", (a, b, c, d) -> a && b);
        holds("a or b or c or d", (a, b, c, d) -> a || b || c || d);
        holds("a and b and c and d", (a, b, c, d) -> a && b && c && d);
        holds("a or b and c", (a, b, c, d) -> a || b && c);
        holds("a and b or c", (a, b, c, d) -> a && b || c);
        holds("a and b or c and d", (a, b, c, d) -> a && b || c && d);
        holds("a or b and c or d", (a, b, c, d) -> a || b && c || d);
        holds("(a or b) and (c or d)", (a, b, c, d) -> (a || b) && (c || d));
        holds("a and (b or c and d)", (a, b, c, d) -> a && (b || c && d));
        holds("a or (b and (c or d))", (a, b, c, d) -> a || b && (c || d));
        holds("a and (b or (c and d))", (a, b, c, d) -> a && (b || c && d));
        holds("a and (b)", (a, b, c, d) -> a && b);
        holds("a or ((b)) and c", (a, b, c, d) -> a || b && c);
        holds("not a and b", (a, b, c, d) -> !a && b);
        holds("not (a and b)", (a, b, c, d) -> !(a && b));
        holds("not (a or b) and not c or d", (a, b, c, d) -> !(a || b) && !c || d);
        holds("not not a or not (not b and (c or not d))", (a, b, c, d) -> a || !(!b && (c || !d)));
        holds("a or b and not (c or d) and b or not a and c", (a, b, c, d) -> a || b && !(c || d) || !a && c);
    }

    private static void wordsAgainstWords() {
        Trial.says("I: RIGHT a WORD (each of them, on both sides)");
        String[] words = {"oath", "denied", "note", "witness", "own", "other", "alike", "claimed"};
        int[] facts = {1, 0, 1, 9, -7, 7, 2, 8};
        for (int i = 0; i < 8; i++) {
            for (int k = 0; k < 8; k++) {
                Trial.due(words[i] + "<" + words[k], byFacts(words[i] + "<" + words[k]), facts[i] < facts[k] ? 5 : 4);
                Trial.due(words[i] + "=" + words[k], byFacts(words[i] + "=" + words[k]), facts[i] == facts[k] ? 5 : 4);
            }
            Trial.due(words[i] + ">=7", byFacts(words[i] + ">=7"), facts[i] >= 7 ? 5 : 4);
        }
    }

    private static int byFacts(String proof) {
        SmallCourt x = Trial.court("prove " + proof);
        int[][] lines = {{0, 1, 1, 3}, {0, 1, 1, 4}, {1, 0, 0, 3}, {1, 0, 0, 4}, {1, 0, 1, 14}};
        for (int[] line : lines) {
            x.line(line[0], line[1], 0, line[2], line[3]);
        }
        x.file(0, 1, 8, 0, true, 9);
        x.summons(0, true);
        return x.hear(0, true, false, 0);
    }

    private static int judged(String text, int sum) {
        SmallCourt x = Trial.court(text);
        return x.count(1) == 0 ? -1 : x.hear(Trial.found(x, 0, 1, sum), false, false, 0);
    }

    private static void firstAlongIt() {
        Trial.says("I: FAULTS, the first along it");
        faulty("most 0;week 0", 5, 1);
        faulty("most 1;week 0;most 2;x", 12, 1);
        faulty("x most 0", 0, 0);
        faulty("most 5;most 0;x", 7, 2);
        faulty("gaol 0 0", 5, 1);
        faulty("gaol 1 0 x", 7, 1);
        faulty("prove own=1 own=10000", 12, 0);
        faulty("prove (((((((((own=10000", 14, 3);
        faulty("prove own=10000 or (((((((((", 10, 1);
    }

    private static void leastOfOnePlace() {
        Trial.says("I: of one place the least");
        faulty("most 5 12345", 7, 0);
        faulty("12345", 0, 0);
        faulty("prove 12345=1", 6, 0);
        faulty("prove own 12345", 10, 0);
        faulty("cost 12345", 5, 0);
        faulty(twenty() + " or owns<1", twenty().length() + 4, 0);
        faulty(twenty() + " or and", twenty().length() + 4, 0);
        faulty("prove ((((((((own (", 18, 0);
        faulty("prove ((((((((own= not", 19, 0);
        faulty("prove ((((((((own=1 not", 20, 0);
    }

    private static void signs() {
        Trial.says("I: SIGN one of < <= = >= > (at the bound itself, one less and one more)");
        String[] signs = {"<", "<=", "=", ">=", ">"};
        int[] holds = {1, 3, 2, 6, 4};
        for (int s = 0; s < signs.length; s++) {
            for (int d = 0; d < 3; d++) {
                int due = (holds[s] >> d & 1) == 1 ? 5 : 4;
                Trial.due((49 + d) + signs[s] + "50", judged("prove claimed" + signs[s] + "50", 49 + d), due);
                Trial.due((49 + d) + signs[s] + "a WORD of 50", againstOwn("claimed" + signs[s] + "own", 49 + d), due);
            }
        }
        Trial.due("the greatest NUMBER", judged("most 9999;prove claimed=9999", 9999), 5);
        Trial.due("a WORD against itself", judged("prove own=own", 5), 5);
        Trial.due("a WORD against itself", judged("prove own<own", 5), 4);
        for (String text : new String[] {"= =1", "==1", "=<1", "=>1", "<>1", "><1", "<<1", ">>1"}) {
            faulty("prove own" + text, text.startsWith("= ") ? 11 : 10, 0);
        }
        for (String text : new String[] {"<==1", ">==1", "< =1", "> =1", "<=<1"}) {
            faulty("prove own" + text, 11, 0);
        }
        faulty("prove own!=1", 9, 0);
    }

    private static int againstOwn(String proof, int sum) {
        SmallCourt x = Trial.court("prove " + proof);
        x.line(0, 1, 0, 0, 50);
        return x.hear(Trial.found(x, 0, 1, sum), false, false, 0);
    }

    private static SmallCourt allTold() {
        SmallCourt x = new SmallCourt();
        Trial.act(x, 0, ALL);
        return x;
    }

    private static void force() {
        Trial.says("6: NONE without these (DAY 0 to 7999, what 0 to 13)");
        Trial.edges(ActBoundaryTest::allTold, "force of", (x, n) -> x.force(n, 1), 0, 7999, -1);
        Trial.edges(ActBoundaryTest::allTold, "force what", (x, n) -> x.force(0, n), 0, 13, -1);
        Trial.edges(SmallCourt::new, "force of", (x, n) -> x.force(n, 13), 0, 7999, -1);
        SmallCourt x = allTold();
        for (int what = 0; what < 14; what++) {
            Trial.due("force(0, " + what + ")", x.force(0, what), what);
            Trial.due("force(-1, " + what + ")", x.force(-1, what), -1);
            Trial.due("force(8000, " + what + ")", x.force(8000, what), -1);
        }
        Trial.due("both", x.force(-1, -1), -1);
    }

    private static void inForce() {
        Trial.says("I: of the ACTS with a DAY not behind d that with the latest DAY, of several the last told");
        SmallCourt x = new SmallCourt();
        Trial.act(x, 10, "most 1");
        Trial.due("the DAY ahead", x.force(9, 1), 480);
        Trial.due("the DAY ahead: none", x.force(9, 0), -1);
        Trial.due("its DAY", x.force(10, 1), 1);
        Trial.due("to the last DAY", x.force(7999, 1), 1);
        Trial.act(x, 10, "most 2");
        Trial.due("the last told of a DAY", x.force(10, 0), 1);
        Trial.act(x, 9, "most 3");
        Trial.due("an earlier DAY told later", x.force(10, 0), 1);
        Trial.due("from its own DAY", x.force(9, 0), 2);
        Trial.due("not ahead of it", x.force(8, 0), -1);
        Trial.act(x, 0, "most 4");
        Trial.due("from the first DAY", x.force(0, 0), 3);
        Trial.due("up to the next", x.force(8, 0), 3);
        Trial.act(x, 7999, "most 5");
        Trial.due("the last DAY", x.force(7999, 0), 4);
        Trial.due("the last DAY but one", x.force(7998, 0), 1);
        Trial.says("I: without one: all as without (an ACT tells nothing of another's CLAUSES)");
        Trial.act(x, 7999, "late 3");
        Trial.due("most", x.force(7999, 1), 480);
        Trial.due("late", x.force(7999, 5), 3);
        x.clock(7999);
        Trial.act(x, 0, "most 6");
        Trial.due("an ACT from a DAY behind", x.force(0, 0), 6);
    }

    private static void asItWasThen() {
        Trial.says("I: a CLAIM goes by the ACT IN FORCE on the DAY on which it was FILED, as it was then");
        SmallCourt x = Trial.court("most 100");
        Trial.act(x, 10, "most 200;prove oath=0");
        x.clock(9);
        int a = x.file(0, 1, 5, 0, false, 0);
        x.clock(10);
        int b = x.file(0, 1, 5, 0, false, 0);
        Trial.act(x, 10, "most 4");
        int c = x.file(0, 1, 5, 0, false, 0);
        Trial.act(x, 9, "most 4");
        x.clock(11);
        Trial.act(x, 11, "most 4");
        Trial.due("the DAY ahead", x.claim(a, 12), 0);
        Trial.due("on its DAY", x.claim(b, 12), 1);
        Trial.due("told ahead of the FILING", x.claim(c, 12), 2);
        x.summons(a, true);
        x.summons(b, true);
        x.summons(c, true);
        Trial.due("JUDGED by the first", x.hear(a, false, false, 0), 4);
        Trial.due("JUDGED by the second", x.hear(b, false, false, 0), 5);
        Trial.due("JUDGED by the third", x.hear(c, false, false, 0), 2);
        byItsOwnAct();
        SmallCourt y = Trial.court("x");
        Trial.due("without one", y.claim(y.file(0, 1, 5, 0, false, 0), 12), -1);
    }

    /** All the CLAUSES are told otherwise on the DAY behind the FILING. */
    private static void byItsOwnAct() {
        SmallCourt x = Trial.court("most 100;week 5;keep 3;late 1;gaol 2 3;longest 20;age 0;cost summons 1;cost hearing 2;"
            + "cost order 4;cost seizure 8;prove oath=0");
        Trial.act(x, 1, "most 9;split 0;week 50;keep 900;late 20;gaol 20 30;longest 400;age 40;cost summons 100;"
            + "cost hearing 200;cost order 400;cost seizure 800;prove oath=1");
        x.file(0, 1, 100, 0, false, 0);
        x.clock(1);
        x.summons(0, true);
        Trial.due("most, age, prove", x.hear(0, false, false, 0), 5);
        x.anew(1, 13, 1, 0, 0);
        Trial.due("keep", x.order(0, 11), -3);
        Trial.due("week", x.order(0, 4), -2);
        Trial.due("costs", x.order(0, 10), 107);
        x.clock(8);
        Trial.due("late", x.state(0, 8, 8, 0), 5);
        Trial.due("late and gaol, the DAY ahead", x.state(0, 21, 8, 0), 5);
        x.clock(22);
        Trial.due("late and gaol", x.state(0, 22, 22, 0), 6);
        Trial.due("cost of a seizure", x.seize(0, 1), 114);
        Trial.due("gaol's d, longest", x.gaol(0), 20);
    }
}
