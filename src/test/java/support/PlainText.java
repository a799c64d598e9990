import java.util.ArrayList;
import java.util.List;

/** A text read and asked in the plainest way: read by a list of states, asked by going over its signs anew. */
final class PlainText {
    private static final class Refused extends RuntimeException {
        private static final long serialVersionUID = 1L;
    }

    final String signs;
    final int clauses;
    private final List<Integer> starts = new ArrayList<>();
    private int at;
    private int[] letters;

    /** Only for texts without a fault. */
    PlainText(String signs) {
        this.signs = signs;
        if (!signs.isEmpty()) {
            starts.add(0);
        }
        for (int i = 0; i < signs.length(); i++) {
            if (signs.charAt(i) == ';') {
                starts.add(i + 1);
            }
        }
        clauses = starts.size();
    }

    /** What the first clause of a letter yields; letters as in "wkblthminq". */
    int value(char letter, int low, int high, int... letters) {
        this.letters = letters;
        for (int start : starts) {
            if (signs.charAt(start) == letter && holds(start)) {
                at = start + 1;
                try {
                    return Math.max(low, Math.min(high, sum()));
                } catch (Refused refused) {
                    return 0;
                }
            }
        }
        return 0;
    }

    private boolean holds(int start) {
        at = signs.indexOf('(', start) + 1;
        try {
            return anyOf();
        } catch (Refused refused) {
            return false;
        }
    }

    private char sign() {
        return at < signs.length() ? signs.charAt(at) : 0;
    }

    private boolean anyOf() {
        boolean any = allOf();
        while (sign() == '|') {
            at++;
            if (any) {
                skip("|)");
            } else {
                any = allOf();
            }
        }
        return any;
    }

    private boolean allOf() {
        boolean all = single();
        while (sign() == '&') {
            at++;
            if (all) {
                all = single();
            } else {
                skip("&|)");
            }
        }
        return all;
    }

    /** Goes on to the next of the ends that is not inside of ( ). */
    private void skip(String ends) {
        int open = 0;
        while (open > 0 || ends.indexOf(sign()) < 0) {
            if (sign() == '(') {
                open++;
            }
            if (sign() == ')') {
                open--;
            }
            at++;
        }
    }

    private boolean single() {
        if (sign() == '!') {
            at++;
            return !single();
        }
        if (sign() == '(') {
            at++;
            boolean holds = anyOf();
            at++;
            return holds;
        }
        int left = sum();
        char by = sign();
        at++;
        int right = sum();
        return by == '<' ? left < right : by == '>' ? left > right : left == right;
    }

    private int sum() {
        int value = product();
        while (sign() == '+' || sign() == '-') {
            char by = sign();
            at++;
            int next = product();
            value = by == '+' ? value + next : value - next;
        }
        return value;
    }

    private int product() {
        int value = factor();
        while (sign() == '*' || sign() == '/' || sign() == '%') {
            char by = sign();
            at++;
            int next = factor();
            if (by != '*' && next == 0) {
                throw new Refused();
            }
            value = by == '*' ? value * next : by == '/' ? value / next : value % next;
        }
        return value;
    }

    private int factor() {
        if (sign() == '[') {
            at++;
            int value = sum();
            at++;
            return value;
        }
        if (sign() >= '0' && sign() <= '9') {
            int value = 0;
            while (sign() >= '0' && sign() <= '9') {
                value = value * 10 + sign() - '0';
                at++;
            }
            return value;
        }
        int value = letters["wkblthminq".indexOf(sign())];
        at++;
        return value;
    }

    private enum Mode { CLAUSE, FACTOR, PIECE, BEHIND, DIGITS, CLOSED, BETWEEN }

    /** 0, or the fault of a text, by states and a list of the open signs. */
    static int fault(String signs) {
        StringBuilder open = new StringBuilder();
        Mode mode = Mode.CLAUSE;
        int clauses = 0;
        int digits = 0;
        char letter = 0;
        boolean ahead = true;
        boolean left = true;
        for (int at = 0; at <= signs.length(); at++) {
            char c = at < signs.length() ? signs.charAt(at) : 0;
            int one = -1000 - at;
            char top = open.length() == 0 ? 0 : open.charAt(open.length() - 1);
            if (mode == Mode.CLAUSE) {
                if (c == 0 || "vgr".indexOf(c) < 0) {
                    return one;
                }
                clauses++;
                if (clauses > 14) {
                    return -4000 - at;
                }
                letter = c;
                ahead = true;
                mode = Mode.FACTOR;
                continue;
            }
            if (mode == Mode.BETWEEN) {
                if (c == 0) {
                    return 0;
                }
                if (c != ';') {
                    return one;
                }
                mode = Mode.CLAUSE;
                continue;
            }
            if (c == 0) {
                return one;
            }
            if (mode == Mode.FACTOR || mode == Mode.PIECE) {
                boolean opens = c == '[' || mode == Mode.PIECE && (c == '!' || c == '(');
                if (opens) {
                    if (open.length() == 6) {
                        return -5000 - at;
                    }
                    open.append(c);
                    if (c == '[') {
                        mode = Mode.FACTOR;
                    }
                    continue;
                }
                if (c >= '0' && c <= '9') {
                    mode = Mode.DIGITS;
                    digits = 1;
                    continue;
                }
                if ("wkblthmin".indexOf(c) < 0 && !(c == 'q' && letter == 'g')) {
                    return one;
                }
                mode = Mode.BEHIND;
                continue;
            }
            if (mode == Mode.DIGITS && c >= '0' && c <= '9') {
                digits++;
                if (digits == 6) {
                    return -2000 - at;
                }
                continue;
            }
            boolean number = mode != Mode.CLOSED;
            if (number && "+-*/%".indexOf(c) >= 0) {
                mode = Mode.FACTOR;
                continue;
            }
            if (number && top == '[') {
                if (c != ']') {
                    return one;
                }
                open.setLength(open.length() - 1);
                mode = Mode.BEHIND;
                continue;
            }
            if (number && ahead) {
                if (c != '(') {
                    return one;
                }
                open.append(c);
                ahead = false;
                left = true;
                mode = Mode.PIECE;
                continue;
            }
            if (number && left) {
                if ("<>=".indexOf(c) < 0) {
                    return one;
                }
                left = false;
                mode = Mode.FACTOR;
                continue;
            }
            if ("&|)".indexOf(c) < 0) {
                return one;
            }
            while (open.charAt(open.length() - 1) == '!') {
                open.setLength(open.length() - 1);
            }
            left = true;
            if (c != ')') {
                mode = Mode.PIECE;
                continue;
            }
            open.setLength(open.length() - 1);
            mode = open.length() == 0 ? Mode.BETWEEN : Mode.CLOSED;
        }
        return 0;
    }
}
