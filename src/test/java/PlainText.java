import java.util.ArrayDeque;
import java.util.ArrayList;
import java.util.HashSet;
import java.util.List;
import java.util.Map;
import java.util.Set;

/** An ACT's text read a second way, by tokens and a table of states, to hold the court's reader against. */
final class PlainText {
    record Token(char kind, int place, String text) { }

    private static final Map<String, int[][]> RANGES = Map.of(
        "most", new int[][] {{1, 1, 9999}}, "split", new int[][] {{2, 0, 365}}, "week", new int[][] {{3, 1, 999}},
        "keep", new int[][] {{4, 0, 999}}, "late", new int[][] {{5, 1, 20}},
        "gaol", new int[][] {{6, 1, 20}, {7, 1, 30}}, "longest", new int[][] {{8, 1, 400}},
        "age", new int[][] {{9, 0, 40}});
    private static final List<String> STEPS = List.of("summons", "hearing", "order", "seizure");
    static final List<String> FACTS =
        List.of("oath", "denied", "note", "witness", "own", "other", "alike", "claimed");

    final int[] values = {0, 480, 30, 12, 60, 2, 4, 1, 40, 21, 0, 0, 0, 0};
    List<Token> proof;
    int fault;
    private final List<Token> tokens = new ArrayList<>();
    private int next;

    PlainText(byte[] bytes) {
        cut(bytes);
        Set<String> told = new HashSet<>();
        if (tokens.get(0).kind != 'e') {
            do {
                clause(told);
            } while (fault == 0 && tokens.get(next++).kind == ';');
        }
    }

    private void cut(byte[] bytes) {
        int i = 0;
        while (i < bytes.length) {
            int from = i;
            char c = (char) (bytes[i] & 255);
            i++;
            if (c == ' ') {
                continue;
            }
            char kind = '?';
            if (c >= 'a' && c <= 'z') {
                kind = 'w';
                while (i < bytes.length && bytes[i] >= 'a' && bytes[i] <= 'z') i++;
            } else if (c >= '0' && c <= '9') {
                kind = 'n';
                while (i < bytes.length && bytes[i] >= '0' && bytes[i] <= '9') i++;
            } else if (c == '<' || c == '>' || c == '=') {
                kind = 's';
                if (c != '=' && i < bytes.length && bytes[i] == '=') i++;
            } else if (c == '(' || c == ')' || c == ';') {
                kind = c;
            }
            StringBuilder text = new StringBuilder();
            for (int k = from; k < i; k++) text.append((char) (bytes[k] & 255));
            tokens.add(new Token(kind, from, text.toString()));
        }
        tokens.add(new Token('e', bytes.length, ""));
    }

    private void bad(Token token, int why) {
        if (fault == 0) {
            fault = 1 + 8 * token.place + why;
        }
    }

    private void clause(Set<String> told) {
        Token name = tokens.get(next++);
        if (name.text.equals("cost")) {
            Token step = tokens.get(next++);
            int k = STEPS.indexOf(step.text);
            if (k < 0) {
                bad(step, 0);
            } else if (!told.add("cost " + step.text)) {
                bad(step, 2);
            } else {
                number(10 + k, 0, 999);
            }
        } else if (name.text.equals("prove")) {
            if (!told.add("prove")) {
                bad(name, 2);
                return;
            }
            int from = next;
            either();
            proof = fault == 0 ? tokens.subList(from, next) : null;
        } else if (RANGES.containsKey(name.text)) {
            if (!told.add(name.text)) {
                bad(name, 2);
                return;
            }
            for (int[] range : RANGES.get(name.text)) {
                if (fault == 0) number(range[0], range[1], range[2]);
            }
        } else {
            bad(name, 0);
        }
        if (fault == 0 && tokens.get(next).kind != ';' && tokens.get(next).kind != 'e') {
            bad(tokens.get(next), 0);
        }
    }

    private void number(int what, int least, int most) {
        Token token = tokens.get(next++);
        if (token.kind != 'n') {
            bad(token, 0);
        } else if (token.text.length() > 4 || Integer.parseInt(token.text) < least
                || Integer.parseInt(token.text) > most) {
            bad(token, 1);
        } else {
            values[what] = Integer.parseInt(token.text);
        }
    }

    private void either() {
        ArrayDeque<Character> open = new ArrayDeque<>();
        int terms = 0;
        char state = 'o';
        while (fault == 0) {
            Token token = tokens.get(next);
            boolean isFact = FACTS.contains(token.text);
            if (state == 'o' && (token.kind == '(' || token.text.equals("not"))) {
                if (open.size() == 8) bad(token, 3);
                open.push(token.text.charAt(0));
            } else if (state == 'o' && isFact) {
                terms++;
                if (terms == 21) bad(token, 4);
                state = 's';
            } else if (state == 's' && token.kind == 's') {
                state = 'r';
            } else if (state == 'r' && (isFact || token.kind == 'n')) {
                if (token.kind == 'n' && token.text.length() > 4) bad(token, 1);
                state = 'a';
                while (!open.isEmpty() && open.peek() == 'n') open.pop();
            } else if (state == 'a' && (token.text.equals("and") || token.text.equals("or"))) {
                state = 'o';
            } else if (state == 'a' && token.kind == ')' && !open.isEmpty()) {
                open.pop();
                while (!open.isEmpty() && open.peek() == 'n') open.pop();
            } else if (state == 'a' && open.isEmpty()) {
                return;
            } else {
                bad(token, 0);
            }
            next++;
        }
    }

    boolean proves(int[] facts) {
        return proof == null ? facts[0] == 1 && facts[1] == 0 : truth(proof, facts);
    }

    /** Splits at an or that stands free, then at an and, then takes off a not or a pair of brackets. */
    private static boolean truth(List<Token> part, int[] facts) {
        for (String joint : List.of("or", "and")) {
            int deep = 0;
            for (int i = 0; i < part.size(); i++) {
                deep += part.get(i).kind == '(' ? 1 : part.get(i).kind == ')' ? -1 : 0;
                if (deep == 0 && part.get(i).text.equals(joint)) {
                    boolean left = truth(part.subList(0, i), facts);
                    boolean right = truth(part.subList(i + 1, part.size()), facts);
                    return joint.equals("or") ? left || right : left && right;
                }
            }
        }
        if (part.get(0).text.equals("not")) {
            return !truth(part.subList(1, part.size()), facts);
        }
        if (part.get(0).kind == '(') {
            return truth(part.subList(1, part.size() - 1), facts);
        }
        int left = facts[FACTS.indexOf(part.get(0).text)];
        Token last = part.get(2);
        int right = last.kind == 'n' ? Integer.parseInt(last.text) : facts[FACTS.indexOf(last.text)];
        return switch (part.get(1).text) {
            case "<" -> left < right;
            case "<=" -> left <= right;
            case "=" -> left == right;
            case ">=" -> left >= right;
            default -> left > right;
        };
    }
}
