/** Thrown calls on SlowPace and on PlainBand, which goes through all there is: both must answer alike. */
public final class OracleTest {
    private static final int RUNS = 700;
    private static final int CALLS = 60;

    private final Dice dice;
    private final StringBuilder told = new StringBuilder();
    private SlowPace real;
    private PlainBand plain;
    private int wrong;

    private OracleTest(Dice dice) {
        this.dice = dice;
    }

    public static void main(String[] args) {
        int runs = args.length > 0 ? Integer.parseInt(args[0]) : RUNS;
        int first = args.length > 1 ? Integer.parseInt(args[1]) : 0;
        int wrong = 0;
        for (int run = first; run < first + runs && wrong == 0; run++) {
            OracleTest test = new OracleTest(new Dice(run));
            test.run();
            wrong += test.wrong;
            if (test.wrong > 0) {
                System.out.println("run " + run + ":\n" + test.told);
            }
        }
        System.out.println(wrong == 0 ? "all thrown runs are alike" : "a thrown run is not alike");
        System.exit(wrong == 0 ? 0 : 1);
    }

    private void due(String call, long got, long want) {
        told.append(call).append(" = ").append(got);
        if (got != want) {
            wrong++;
            told.append(", due is ").append(want);
        }
        told.append('\n');
    }

    private void due(String call, boolean got, boolean want) {
        due(call, got ? 1 : 0, want ? 1 : 0);
    }

    private void run() {
        real = new SlowPace();
        plain = new PlainBand();
        if (dice.once(4)) {
            marching();
            return;
        }
        if (dice.once(12)) {
            packing();
            return;
        }
        if (dice.once(20)) {
            far();
            return;
        }
        int walkers = dice.from(0, 5) == 0 ? dice.from(0, 1) : dice.from(1, 6);
        for (int i = 0; i < walkers; i++) {
            walker();
        }
        text();
        int loads = dice.from(0, walkers > 3 ? 4 : 6);
        for (int i = 0; i < loads; i++) {
            load();
        }
        int pieces = dice.from(1, dice.once(6) ? 10 : 3);
        for (int i = 0; i < pieces; i++) {
            piece();
        }
        int plans = dice.from(1, 3);
        for (int i = 0; i < plans; i++) {
            plan(dice.from(0, 5));
        }
        march(pieces);
        for (int i = 0; i < CALLS && wrong == 0; i++) {
            call();
            int what = dice.from(-1, 14);
            due("count(" + what + ")", real.count(what), plain.count(what));
        }
    }

    /** A run for the marches: few walkers and plans, loads that weigh and tire. */
    private void marching() {
        int walkers = dice.from(1, 4);
        for (int i = 0; i < walkers; i++) {
            walker();
        }
        int loads = dice.from(1, 4);
        for (int i = 0; i < loads; i++) {
            load();
        }
        int pieces = dice.from(1, 4);
        for (int i = 0; i < pieces; i++) {
            piece();
        }
        tell(ThrownTexts.tiring(dice));
        for (int k = 0; k < (pieces == 4 ? 2 : 3); k++) {
            plan(dice.from(0, 5));
        }
        for (int i = 0; i < 12 && wrong == 0; i++) {
            if (dice.once(5)) {
                tell(ThrownTexts.tiring(dice));
            }
            if (dice.once(3)) {
                tell(4);
            }
            if (dice.once(3)) {
                int load = loadPlace();
                march(pieces);
                due("ran(1)", real.ran(1), plain.ran(1));
                due("kettle(" + load + ")", real.kettle(load), plain.kettle(load));
                check();
            }
            go(dice.from(24, 27));
        }
    }

    /** A run for long marches. */
    private void far() {
        int walkers = dice.from(1, 4);
        for (int i = 0; i < walkers; i++) {
            walker();
        }
        int loads = dice.from(1, 5);
        for (int i = 0; i < loads; i++) {
            load();
        }
        int pieces = dice.from(5, 10);
        for (int i = 0; i < pieces; i++) {
            piece();
        }
        for (int k = 0; k < 3; k++) {
            plan(dice.from(0, 5));
        }
        for (int i = 0; i < 2 && wrong == 0; i++) {
            tell(ThrownTexts.tiring(dice));
            tell(4);
            for (int what = -1; what < pieces; what++) {
                due("best(" + what + ")", real.best(what), plain.best(what));
            }
            for (int changes = 0; changes < 4; changes++) {
                due("often(" + changes + ")", real.often(changes), plain.often(changes));
            }
            due("edge()", real.edge(), plain.edge());
        }
    }

    /** A run for whole loads: many of them, hardly any room too much. */
    private void packing() {
        int walkers = dice.from(2, 4);
        for (int i = 0; i < walkers; i++) {
            walker();
        }
        tell("v" + dice.from(30, 60) + "-l/" + dice.from(2, 9) + "-k*" + dice.from(0, 1) + "+b/40(0=0)");
        int loads = walkers == 4 ? 6 : 9;
        for (int i = 0; i < loads; i++) {
            load();
        }
        piece();
        for (int i = 0; i < 4 && wrong == 0; i++) {
            for (int what = -1; what < loads; what++) {
                due("whole(0, 0, " + what + ")", real.whole(0, 0, what), plain.whole(0, 0, what));
            }
            stand(dice.from(14, 19));
        }
    }

    private void walker() {
        int knee = dice.from(0, 9);
        int weight = dice.from(20, 250);
        due("walker(" + knee + ", " + weight + ")", real.walker(knee, weight), plain.walker(knee, weight));
    }

    private void load() {
        int weight = dice.once(3) ? dice.from(1, 120) : dice.from(1, 40);
        int owner = dice.once(3) ? dice.from(-1, 5) : -1;
        int food = dice.once(2) ? 0 : dice.from(0, 20);
        due("load(" + weight + ", " + owner + ", " + food + ")", real.load(weight, owner, food),
                plain.load(weight, owner, food));
    }

    private void piece() {
        int miles = dice.from(1, 20);
        int slope = dice.from(-9, 9);
        due("piece(" + miles + ", " + slope + ")", real.piece(miles, slope), plain.piece(miles, slope));
    }

    private void feed(int... bytes) {
        int at = 0;
        do {
            int[] five = new int[5];
            for (int i = 0; i < 20; i++) {
                int sign = at < bytes.length ? bytes[at] : dice.from(0, 255);
                five[i / 4] = five[i / 4] << 8 | sign & 255;
                at++;
            }
            due("feed(" + five[0] + ", " + five[1] + ", " + five[2] + ", " + five[3] + ", " + five[4] + ")",
                    real.feed(five[0], five[1], five[2], five[3], five[4]),
                    plain.feed(five[0], five[1], five[2], five[3], five[4]));
        } while (at < bytes.length);
    }

    /** Empties the tape by a text that can't be, if there is anything on it. */
    private void empty() {
        int size = plain.count(4);
        if (size > 0) {
            int n = Math.min(size, 200);
            int fault = plain.text(n);
            due("text(" + n + ")", real.text(n), fault);
        }
    }

    private void text() {
        tell(ThrownTexts.text(dice));
    }

    private void tell(String signs) {
        empty();
        told.append(signs).append('\n');
        int[] bytes = new int[signs.length()];
        for (int i = 0; i < bytes.length; i++) {
            bytes[i] = signs.charAt(i);
        }
        feed(bytes);
        int n = Math.min(200, bytes.length);
        due("text(" + n + ")", real.text(n), plain.text(n));
    }

    private void plan(int k) {
        empty();
        int loads = plain.count(1);
        int[] bytes = new int[20];
        for (int i = 0; i < loads; i++) {
            bytes[i] = dice.from(0, dice.once(20) ? 6 : Math.max(0, plain.count(0) - 1));
            if (!dice.once(20) && plain.ownerOf(i) >= 0) {
                bytes[i] = plain.ownerOf(i);
            }
        }
        if (!dice.once(20)) {
            feed(bytes);
        }
        due("plan(" + k + ")", real.plan(k), plain.plan(k));
    }

    private void march(int n) {
        empty();
        int[] bytes = new int[20];
        int told = plain.count(6);
        for (int i = 0; i < bytes.length; i++) {
            int k = dice.from(0, 5);
            while (told > 0 && (told >> k & 1) == 0 && !dice.once(20)) {
                k = dice.from(0, 5);
            }
            bytes[i] = 6 * dice.from(0, dice.once(20) ? 3 : 2) + k;
        }
        feed(bytes);
        due("march(" + n + ")", real.march(n), plain.march(n));
    }

    private void check() {
        empty();
        java.util.List<Integer> minutes = plain.minutes();
        int[] bytes = new int[40];
        for (int i = 0; i < 10; i++) {
            int number = i < minutes.size() && !dice.once(20) ? minutes.get(i) : dice.from(0, 99);
            for (int k = 0; k < 4; k++) {
                bytes[4 * i + k] = number >> 24 - 8 * k & 255;
            }
        }
        feed(bytes);
        int n = dice.once(3) ? dice.from(-1, 11) : minutes.size();
        due("check(" + n + ")", real.check(n), plain.check(n));
    }

    private int piecePlace() {
        return dice.once(25) ? dice.from(-1, 10) : dice.from(0, Math.max(0, plain.count(2) - 1));
    }

    private int walkerPlace() {
        return dice.once(25) ? dice.from(-1, 6) : dice.from(0, Math.max(0, plain.count(0) - 1));
    }

    private int loadPlace() {
        return dice.once(25) ? dice.from(-1, 9) : dice.from(0, Math.max(0, plain.count(1) - 1));
    }

    private int tiredness() {
        return dice.once(3) ? 0 : dice.once(25) ? dice.from(-2, 0) + 46657 * dice.from(0, 1) : dice.from(0, 46655);
    }

    private void call() {
        int kind = dice.from(0, 29);
        if (kind < 10) {
            tell(kind);
        } else if (kind < 21) {
            stand(kind);
        } else {
            go(kind);
        }
    }

    private void tell(int kind) {
        int odd = dice.from(0, 9);
        if (kind == 0 && odd < 2) {
            walker();
        } else if (kind == 1 && odd < 3 && (plain.count(1) < 4 || plain.count(0) < 3)) {
            load();
        } else if (kind == 2 && odd < 3) {
            piece();
        } else if (kind == 3) {
            int w = walkerPlace();
            boolean is = dice.once(2);
            due("lame(" + w + ", " + is + ")", real.lame(w, is), plain.lame(w, is));
        } else if (kind == 4) {
            int minutes = dice.from(-3, dice.once(2) ? 20 : 123);
            due("change(" + minutes + ")", real.change(minutes), plain.change(minutes));
        } else if (kind == 5 && odd < 4) {
            text();
        } else if (kind == 6) {
            plan(dice.once(20) ? dice.from(-1, 6) : dice.from(0, 5));
        } else if (kind == 7) {
            march(dice.once(10) ? dice.from(-1, 11) : plain.count(2));
        } else if (kind == 8) {
            check();
        } else if (odd < 2) {
            feed();
        }
    }

    private void stand(int kind) {
        int piece = piecePlace();
        int tiredness = tiredness();
        String place = piece + ", " + tiredness;
        if (kind == 10) {
            int w = walkerPlace();
            int pounds = dice.from(-1, dice.once(2) ? 80 : 1001);
            int tired = dice.from(dice.once(20) ? -1 : 0, dice.once(20) ? 6 : 5);
            due("pace(" + w + ", " + pounds + ", " + tired + ", " + piece + ")", real.pace(w, pounds, tired, piece),
                    plain.pace(w, pounds, tired, piece));
        } else if (kind == 11) {
            int w = walkerPlace();
            int p = dice.from(0, dice.once(2) ? 20 : 61);
            int tired = dice.from(dice.once(20) ? -1 : 0, dice.once(20) ? 6 : 5);
            due("carry(" + w + ", " + p + ", " + tired + ", " + piece + ")", real.carry(w, p, tired, piece),
                    plain.carry(w, p, tired, piece));
        } else if (kind == 12) {
            int pounds = dice.from(-1, dice.once(3) ? 2401 : 200);
            int what = dice.from(dice.once(20) ? -1 : 0, dice.once(20) ? 3 : 2);
            due("parts(" + pounds + ", " + place + ", " + what + ")", real.parts(pounds, piece, tiredness, what),
                    plain.parts(pounds, piece, tiredness, what));
        } else if (kind == 13) {
            int what = dice.once(4) ? -1 : dice.once(4) ? 9 : loadPlace();
            due("whole(" + place + ", " + what + ")", real.whole(piece, tiredness, what),
                    plain.whole(piece, tiredness, what));
        } else if (kind == 14) {
            due("wont(" + place + ")", real.wont(piece, tiredness), plain.wont(piece, tiredness));
        } else if (kind == 15) {
            int what = dice.from(dice.once(20) ? -1 : 0, dice.once(20) ? 2 : 1);
            due("who(" + place + ", " + what + ")", real.who(piece, tiredness, what),
                    plain.who(piece, tiredness, what));
        } else if (kind == 16) {
            int load = loadPlace();
            due("pounds(" + load + ", " + place + ")", real.pounds(load, piece, tiredness),
                    plain.pounds(load, piece, tiredness));
        } else {
            standMore(kind, piece, tiredness, place);
        }
    }

    private void standMore(int kind, int piece, int tiredness, String place) {
        if (kind == 17) {
            int cook = dice.from(-1, dice.once(3) ? 601 : 60);
            int what = dice.from(dice.once(20) ? -1 : 0, dice.once(20) ? 3 : 2);
            due("ahead(" + place + ", " + cook + ", " + what + ")", real.ahead(piece, tiredness, cook, what),
                    plain.ahead(piece, tiredness, cook, what));
        } else if (kind == 18) {
            int n = dice.from(0, 6);
            due("stages(" + place + ", " + n + ")", real.stages(piece, tiredness, n),
                    plain.stages(piece, tiredness, n));
            due("goes(" + place + ")", real.goes(piece, tiredness), plain.goes(piece, tiredness));
        } else if (kind == 19) {
            int what = dice.from(dice.once(20) ? -1 : 0, dice.once(20) ? 2 : 1);
            due("carried(" + place + ", " + what + ")", real.carried(piece, tiredness, what),
                    plain.carried(piece, tiredness, what));
        } else {
            int most = dice.from(0, dice.once(3) ? 501 : 50);
            int d = dice.from(dice.once(20) ? 0 : 1, dice.once(20) ? 11 : Math.max(1, plain.count(2)));
            int what = dice.from(dice.once(20) ? -1 : 0, dice.once(20) ? 2 : 1);
            due("mule(" + most + ", " + d + ", " + tiredness + ", " + what + ")",
                    real.mule(most, d, tiredness, what), plain.mule(most, d, tiredness, what));
        }
    }

    private void go(int kind) {
        long marches = plain.count(0) > 4 ? 1 : plain.marches();
        if (kind == 21 || kind == 22) {
            for (int what = -1; what < 5; what++) {
                due("ran(" + what + ")", real.ran(what), plain.ran(what));
            }
        } else if (kind == 23) {
            int piece = piecePlace();
            due("gap(" + piece + ")", real.gap(piece), plain.gap(piece));
        } else if ((kind == 24 || kind == 25) && marches < 800) {
            for (int what = -1; what <= plain.count(2); what++) {
                due("best(" + what + ")", real.best(what), plain.best(what));
            }
        } else if (kind == 26 && marches < 4000) {
            int changes = dice.from(-1, 4);
            due("often(" + changes + ")", real.often(changes), plain.often(changes));
        } else if (kind == 27 && marches < 4000) {
            due("edge()", real.edge(), plain.edge());
        } else if (kind == 28) {
            int a = dice.from(0, 1 << plain.count(0));
            int b = dice.once(2) ? dice.from(-1, 64) : ~a & dice.from(0, 1 << plain.count(0));
            int what = dice.from(dice.once(20) ? -1 : 0, dice.once(20) ? 2 : 1);
            due("bands(" + a + ", " + b + ", " + what + ")", real.bands(a, b, what), plain.bands(a, b, what));
        } else {
            int load = loadPlace();
            due("kettle(" + load + ")", real.kettle(load), plain.kettle(load));
        }
    }
}
