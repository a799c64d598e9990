/** Texts thrown: some that make sense for walkers, some by the grammar alone, some with faults. */
final class ThrownTexts {
    private ThrownTexts() {
    }

    static String text(Dice dice) {
        String text = dice.from(0, 3) > 0 ? sensible(dice) : wild(dice);
        if (dice.once(8)) {
            text = broken(dice, text);
        }
        return text;
    }

    /** Loads make slow and tired, rests help. */
    static String tiring(Dice dice) {
        if (dice.once(2)) {
            return "v" + dice.from(45, 60) + "-l/" + dice.from(3, 9) + "-t*" + dice.from(5, 11) + "(0=0);g"
                    + dice.from(1, 4) + "(l>" + dice.from(0, 30) + ");g0-" + dice.from(0, 3) + "(w=w)"
                    + (dice.once(2) ? ";r" + dice.from(1, 4) + "(1=1)" : "");
        }
        StringBuilder text = new StringBuilder();
        text.append("v").append(dice.from(20, 60)).append("-l/").append(dice.from(1, 6));
        text.append("-t*").append(dice.from(1, 12)).append(dice.pick("+-")).append("w*").append(dice.from(0, 4));
        text.append(dice.once(3) ? "+h" : "").append("(0=0)");
        text.append(";g").append(dice.from(1, 5)).append("(l>").append(dice.from(0, 60)).append(")");
        text.append(";g").append(dice.pick("qlhwkt")).append("/").append(dice.from(1, 90)).append("(1=1)");
        text.append(";r").append(dice.pick("12345wt")).append("(").append(dice.pick("10i")).append("<3)");
        return text.toString();
    }

    private static String sensible(Dice dice) {
        StringBuilder text = new StringBuilder();
        if (dice.once(3)) {
            text.append("v").append(speed(dice)).append("(").append(anyOf(dice, false, 1)).append(");");
        }
        text.append("v").append(speed(dice)).append("(0=0)");
        if (!dice.once(4)) {
            String more = dice.pick("0123") + dice.pick("+-") + dice.pick("lqthw") + "/" + dice.pick("3579") + "0";
            text.append(";g").append(more).append("(").append(anyOf(dice, true, 1)).append(")");
            text.append(dice.once(2) ? ";g1(1=1)" : "");
        }
        if (!dice.once(4)) {
            text.append(";r").append(dice.pick("1234twk")).append("(").append(dice.pick("10i")).append("<3)");
        }
        return text.toString();
    }

    private static String speed(Dice dice) {
        StringBuilder text = new StringBuilder().append(dice.from(10, 60));
        int terms = dice.from(0, 4);
        for (int i = 0; i < terms; i++) {
            String[] kinds = {"-l/5", "-l/" + dice.from(1, 9), "-k", "-t*" + dice.from(1, 4), "-h", "+h", "-t*k",
                "+b/20", "-b/30", "-m/3", "+i", "-i*t", "-n", "-w*2", "-l*t/9", "+l%7", "-[l-30]/[k+1]", "-l/[9-t*2]"};
            text.append(kinds[dice.next(kinds.length)]);
        }
        return text.toString();
    }

    private static String wild(Dice dice) {
        StringBuilder text = new StringBuilder();
        int clauses = dice.once(10) ? dice.from(10, 16) : dice.from(1, 4);
        for (int i = 0; i < clauses && text.length() < 140; i++) {
            String letter = dice.pick("vvvggr");
            boolean minutes = letter.equals("g");
            int depth = clauses > 9 ? 5 : dice.from(0, 4);
            text.append(i == 0 ? "" : ";").append(letter);
            text.append(sum(dice, minutes, depth)).append("(").append(anyOf(dice, minutes, depth)).append(")");
        }
        return text.toString();
    }

    private static String anyOf(Dice dice, boolean minutes, int depth) {
        String text = allOf(dice, minutes, depth);
        while (dice.once(4)) {
            text += "|" + allOf(dice, minutes, depth + 1);
        }
        return text;
    }

    private static String allOf(Dice dice, boolean minutes, int depth) {
        String text = single(dice, minutes, depth);
        while (dice.once(4)) {
            text += "&" + single(dice, minutes, depth + 1);
        }
        return text;
    }

    private static String single(Dice dice, boolean minutes, int depth) {
        if (depth < 6 && dice.once(6)) {
            return "!" + single(dice, minutes, depth + 1);
        }
        if (depth < 6 && dice.once(6)) {
            return "(" + anyOf(dice, minutes, depth + 1) + ")";
        }
        return sum(dice, minutes, depth + 2) + dice.pick("<>=") + sum(dice, minutes, depth + 2);
    }

    private static String sum(Dice dice, boolean minutes, int depth) {
        String text = product(dice, minutes, depth);
        while (dice.once(4)) {
            text += dice.pick("+-") + product(dice, minutes, depth);
        }
        return text;
    }

    private static String product(Dice dice, boolean minutes, int depth) {
        String text = factor(dice, minutes, depth);
        while (dice.once(4)) {
            text += dice.pick("**/%") + factor(dice, minutes, depth);
        }
        return text;
    }

    private static String factor(Dice dice, boolean minutes, int depth) {
        if (depth < 6 && dice.once(5)) {
            return "[" + sum(dice, minutes, depth + 1) + "]";
        }
        if (dice.once(2)) {
            return "" + (dice.once(6) ? dice.from(0, 99999) : dice.from(0, 40));
        }
        return minutes && dice.once(4) ? "q" : dice.pick("wkblthmin");
    }

    /** One sign more, one less, or another one. */
    private static String broken(Dice dice, String text) {
        int at = dice.next(text.length());
        String sign = dice.pick("vgrwkblthminq0123456789+-*/%<>=!&|()[];ax ");
        int kind = dice.from(0, 3);
        if (kind == 0) {
            return text.substring(0, at) + sign + text.substring(at);
        }
        if (kind == 1) {
            return text.substring(0, at) + text.substring(at + 1) + sign;
        }
        if (kind == 2) {
            return text.substring(0, at) + "((([[[!!!1=1".charAt(dice.next(12)) + text.substring(at);
        }
        return text.substring(0, at) + sign + text.substring(at + 1);
    }
}
