/** The edges of what is told: a new object, walkers, loads, pieces, the lame, a change, the tape (promises 1 to 7). */
public final class TellEdgeTest {
    private static final Told TOLD = new Told();
    private static final int LOWEST = Integer.MIN_VALUE;
    private static final int HIGHEST = Integer.MAX_VALUE;

    public static void main(String[] args) {
        nothingIsTold();
        nothingCanBeAsked();
        ownMemory();
        walkerBounds();
        sixWalkers();
        walkerFalls();
        loadBounds();
        nineLoads();
        loadFalls();
        eaten();
        pieceBounds();
        tenPieces();
        pieceFalls();
        lameBounds();
        lameHalf();
        lameIsKept();
        changeBounds();
        changeIsKept();
        feedBounds();
        feedOrder();
        System.exit(TOLD.end());
    }

    private static void due(String what, long got, long want) {
        TOLD.due(what, got, want);
    }

    private static void due(String what, boolean got, boolean want) {
        TOLD.due(what, got, want);
    }

    private static void nothingIsTold() {
        SlowPace x = new SlowPace();
        due("1 no walkers", x.count(0), 0);
        due("1 no loads", x.count(1), 0);
        due("1 no pieces", x.count(2), 0);
        due("1 no text", x.count(3), 0);
        due("1 the tape is empty", x.count(4), 0);
        due("1 a change costs 10", x.count(5), 10);
        due("1 no plans", x.count(6), 0);
        due("1 no march", x.count(7), 0);
        for (int piece = 0; piece < 10; piece++) {
            due("1 no pounds at " + piece, x.count(10 + piece), -1);
        }
    }

    private static void nothingCanBeAsked() {
        SlowPace x = new SlowPace();
        due("1 lame", x.lame(0, true), false);
        due("1 lame no more", x.lame(0, false), false);
        due("1 text", x.text(1), -1);
        due("1 pace", x.pace(0, 0, 0, 0), -1);
        due("1 carry", x.carry(0, 1, 0, 0), -2);
        due("1 parts", x.parts(0, 0, 0, 0), -1);
        due("1 whole", x.whole(0, 0, -1), -3);
        due("1 whole, minutes", x.whole(0, 0, 9), -3);
        due("1 wont", x.wont(0, 0), -1000000);
        due("1 who", x.who(0, 0, 0), -2);
        due("1 pounds", x.pounds(0, 0, 0), -1);
        due("1 ahead", x.ahead(0, 0, 0, 0), -1);
        due("1 stages", x.stages(0, 0, 1), -1);
        due("1 goes", x.goes(0, 0), -1);
        due("1 carried", x.carried(0, 0, 0), -3);
        due("1 mule", x.mule(1, 1, 0, 0), -1);
        due("1 march of no pieces", x.march(0), false);
        due("1 march", x.march(1), false);
        due("1 ran", x.ran(0), -2);
        due("1 ran, no such what", x.ran(4), -1);
        due("1 gap", x.gap(0), -1);
        due("1 best", x.best(-1), -1);
        due("1 often", x.often(0), -1);
        due("1 edge", x.edge(), -1);
        due("1 bands", x.bands(1, 2, 0), -1);
        due("1 kettle", x.kettle(0), -1);
        due("1 check", x.check(0), -2);
        due("1 a plan of no loads needs nobody", x.plan(0), true);
    }

    private static void ownMemory() {
        SlowPace one = Scene.laden(Scene.level(2, 2, "v40-l(1=1)"), 10);
        SlowPace other = new SlowPace();
        due("1 the other has no walkers", other.count(0), 0);
        due("1 nor a text", other.count(3), 0);
        other.walker(0, 50);
        other.piece(1, 0);
        other.lame(0, true);
        other.change(1);
        Told.bytes(other, 0);
        due("1 the one's text is not the other's", other.pace(0, 0, 0, 0), 0);
        due("1 the other is lame, the one is not", one.pace(0, 0, 0, 0), 40);
        due("1 the one's change", one.count(5), 10);
        due("1 the one's tape", one.count(4), 0);
        due("1 the one's plan", Told.plan(one, 3, 1), true);
        due("1 is not the other's", other.count(6), 0);
        due("1 the other's tape", other.count(4), 20);
        due("1 the one's march", Told.march(one, 3, 3), true);
        due("1 is not the other's", other.ran(0), -2);
        due("1 the one's march is run", one.ran(0), 40);
    }

    private static void walkerBounds() {
        int[][] refused = {{-1, 50}, {10, 50}, {LOWEST, 50}, {HIGHEST, 50}, {0, 19}, {0, 251}, {0, LOWEST},
            {0, HIGHEST}, {-1, 19}, {10, 251}, {0, -50}, {0, 0}};
        SlowPace x = new SlowPace();
        for (int[] told : refused) {
            due("2 walker(" + told[0] + ", " + told[1] + ")", x.walker(told[0], told[1]), -1);
            due("2 nobody came", x.count(0), 0);
        }
        due("2 knee 0, weight 20", x.walker(0, 20), 0);
        due("2 knee 9, weight 250", x.walker(9, 250), 1);
        due("2 knee 0, weight 250", x.walker(0, 250), 2);
        due("2 knee 9, weight 20", x.walker(9, 20), 3);
        due("2 knee 1, weight 21", x.walker(1, 21), 4);
        due("2 knee 8, weight 249", x.walker(8, 249), 5);
        x.piece(1, 0);
        Told.text(x, "vk(1=1)");
        int[] knees = {0, 9, 0, 9, 1, 8};
        for (int w = 0; w < 6; w++) {
            due("2 knee of " + w, x.pace(w, 0, 0, 0), knees[w]);
        }
        Told.text(x, "vb-210(b>200);vb-19(1=1)");
        int[] weights = {1, 40, 40, 1, 2, 39};
        for (int w = 0; w < 6; w++) {
            due("2 weight of " + w, x.pace(w, 0, 0, 0), weights[w]);
        }
    }

    private static void sixWalkers() {
        SlowPace x = Scene.level(0, 1, "v10+n(1=1)");
        for (int w = 0; w < 6; w++) {
            due("2 walker " + w, x.walker(w, 20 + w), w);
            due("2 so many", x.count(0), w + 1);
            due("2 n tells so many", x.pace(0, 0, 0, 0), 11 + w);
        }
        due("2 a seventh", x.walker(0, 50), -1);
        due("2 six are there", x.count(0), 6);
        due("2 n is still 6", x.pace(5, 0, 0, 0), 16);
        due("2 walker 6 is not there", x.pace(6, 0, 0, 0), -1);
    }

    private static void walkerFalls() {
        SlowPace x = Scene.level(5, 1, "v10(1=1)");
        x.plan(0);
        x.plan(5);
        Told.march(x, 5);
        x.walker(10, 50);
        x.walker(0, 251);
        due("2 refused: the march stays", x.count(7), 1);
        due("2 refused: it can be run", x.ran(0), 60);
        due("2 the sixth", x.walker(9, 250), 5);
        due("2 the march falls", x.count(7), 0);
        due("2 it can't be run", x.ran(0), -2);
        due("2 the plans stay", x.count(6), 33);
        due("2 they can be taken again", Told.march(x, 0), true);
        due("2 the seventh", x.walker(0, 50), -1);
        due("2 refused: the march stays", x.count(7), 1);
    }

    private static void loadBounds() {
        int[][] refused = {{0, -1, 0}, {121, -1, 0}, {-1, -1, 0}, {LOWEST, -1, 0}, {HIGHEST, -1, 0}, {1, -2, 0},
            {1, 2, 0}, {1, 6, 0}, {1, LOWEST, 0}, {1, HIGHEST, 0}, {1, -1, -1}, {1, -1, 21}, {1, -1, LOWEST},
            {1, -1, HIGHEST}};
        SlowPace x = Scene.level(2, 1, "vl(1=1)");
        for (int[] told : refused) {
            String call = "3 load(" + told[0] + ", " + told[1] + ", " + told[2] + ")";
            due(call, x.load(told[0], told[1], told[2]), -1);
            due("3 none came", x.count(1), 0);
        }
        due("3 1 pound, nobody's, no food", x.load(1, -1, 0), 0);
        due("3 120 pounds, of walker 0, 20 a piece", x.load(120, 0, 20), 1);
        due("3 of the last walker", x.load(60, 1, 1), 2);
        due("3 in all", x.count(10), 181);
        due("3 the owner comes with the third walker", x.load(1, 2, 0), -1);
        x.walker(0, 50);
        due("3 now he is there", x.load(1, 2, 0), 3);
        due("3 no load without walkers has an owner", new SlowPace().load(1, 0, 0), -1);
        due("3 but nobody's may be", new SlowPace().load(1, -1, 0), 0);
    }

    private static void nineLoads() {
        SlowPace x = Scene.level(1, 1, "v10(1=1)");
        for (int load = 0; load < 9; load++) {
            due("3 load " + load, x.load(1 + load, -1, 0), load);
            due("3 so many", x.count(1), load + 1);
        }
        due("3 a tenth", x.load(1, -1, 0), -1);
        due("3 nine are there", x.count(1), 9);
        due("3 their pounds", x.count(10), 45);
        due("3 load 8 is there", x.whole(0, 0, 8), 0);
        due("3 load 9 is not: 9 asks for minutes", x.whole(0, 0, 9), 60);
    }

    private static void loadFalls() {
        SlowPace x = Scene.level(1, 1, "v10(1=1)");
        x.plan(0);
        x.plan(3);
        Told.march(x, 3);
        int[][] refused = {{0, -1, 0}, {121, -1, 0}, {1, 1, 0}, {1, -2, 0}, {1, -1, 21}, {1, -1, -1}};
        for (int[] told : refused) {
            x.load(told[0], told[1], told[2]);
            due("3 refused: the plans stay", x.count(6), 9);
            due("3 refused: the march stays", x.ran(0), 60);
        }
        x.load(1, -1, 0);
        due("3 the plans fall", x.count(6), 0);
        due("3 the march falls", x.count(7), 0);
        due("3 a plan that fell can't be taken", Told.march(x, 3), false);
        for (int load = 1; load < 9; load++) {
            x.load(1, 0, 0);
        }
        Told.plan(x, 2, 0, 0, 0, 0, 0, 0, 0, 0, 0);
        Told.march(x, 2);
        x.load(1, -1, 0);
        due("3 the tenth: the plans stay", x.count(6), 4);
        due("3 the tenth: the march stays", x.count(7), 1);
    }

    private static void eaten() {
        SlowPace x = Scene.level(1, 10, "v60-l(1=1)");
        x.load(120, -1, 20);
        int[] left = {120, 100, 80, 60, 40, 20, 0, 0, 0, 0};
        for (int i = 0; i < 10; i++) {
            due("3 20 a piece, at " + i, x.count(10 + i), left[i]);
        }
        x.load(10, -1, 3);
        int[] more = {10, 7, 4, 1, 0, 0, 0, 0, 0, 0};
        for (int i = 0; i < 10; i++) {
            due("3 not below 0, each by itself, at " + i, x.count(10 + i), left[i] + more[i]);
        }
        x.load(5, -1, 0);
        due("3 without food", x.count(19), 5);
        due("3 as they are at the piece", x.whole(3, 0, -1), 0);
        due("3 as they are at the piece", x.whole(4, 0, -1), 15);
        due("3 as they are at the piece", x.whole(6, 0, -1), 55);
    }

    private static void pieceBounds() {
        int[][] refused = {{0, 0}, {21, 0}, {-1, 0}, {LOWEST, 0}, {HIGHEST, 0}, {1, -10}, {1, 10}, {1, LOWEST},
            {1, HIGHEST}};
        SlowPace x = Scene.level(1, 0, "v10+h(1=1)");
        for (int[] told : refused) {
            due("4 piece(" + told[0] + ", " + told[1] + ")", x.piece(told[0], told[1]), -1);
            due("4 none came", x.count(2), 0);
        }
        due("4 1 mile, 9 down", x.piece(1, -9), 0);
        due("4 20 miles, 9 up", x.piece(20, 9), 1);
        due("4 the slope", x.pace(0, 0, 0, 0), 1);
        due("4 the slope", x.pace(0, 0, 0, 1), 19);
        Told.text(x, "vm(1=1)");
        due("4 the miles", x.pace(0, 0, 0, 0), 1);
        due("4 the miles", x.pace(0, 0, 0, 1), 20);
    }

    private static void tenPieces() {
        SlowPace x = Scene.level(1, 0, "vi+1(1=1)");
        for (int piece = 0; piece < 10; piece++) {
            due("4 piece " + piece, x.piece(20, 0), piece);
            due("4 behind those that are there", x.pace(0, 0, 0, piece), piece + 1);
        }
        due("4 an eleventh", x.piece(1, 0), -1);
        due("4 ten are there", x.count(2), 10);
        due("4 piece 10 is not there", x.pace(0, 0, 0, 10), -1);
        due("4 nor its pounds", x.count(20), -1);
        due("4 piece 9 has none", x.count(19), 0);
    }

    private static void pieceFalls() {
        SlowPace x = Scene.level(1, 9, "v10(1=1)");
        x.plan(4);
        Told.march(x, 4, 4, 4, 4, 4, 4, 4, 4, 4);
        int[][] refused = {{0, 0}, {21, 0}, {1, -10}, {1, 10}};
        for (int[] told : refused) {
            x.piece(told[0], told[1]);
            due("4 refused: the march stays", x.ran(0), 540);
        }
        x.piece(1, 0);
        due("4 the march falls", x.count(7), 0);
        due("4 the plans stay", x.count(6), 16);
        due("4 ten", Told.march(x, 4, 4, 4, 4, 4, 4, 4, 4, 4, 4), true);
        x.piece(1, 0);
        due("4 the eleventh: the march stays", x.ran(0), 600);
    }

    private static void lameBounds() {
        SlowPace x = Scene.level(2, 1, "v20(1=1)");
        int[] none = {-1, 2, 6, LOWEST, HIGHEST};
        for (int w : none) {
            due("5 no walker " + w, x.lame(w, true), false);
            due("5 no walker " + w, x.lame(w, false), false);
        }
        due("5 sound as he is", x.lame(0, false), false);
        due("5 lame", x.lame(0, true), true);
        due("5 lame as he is", x.lame(0, true), false);
        due("5 he is still lame", x.pace(0, 0, 0, 0), 10);
        due("5 the other one is not", x.pace(1, 0, 0, 0), 20);
        due("5 the last one", x.lame(1, true), true);
        due("5 no more", x.lame(0, false), true);
        due("5 no more, as he is", x.lame(0, false), false);
        due("5 he goes as before", x.pace(0, 0, 0, 0), 20);
        due("5 the other one is lame still", x.pace(1, 0, 0, 0), 10);
        x.walker(0, 50);
        due("5 a new one is not lame", x.pace(2, 0, 0, 0), 20);
        due("5 nor does his coming heal", x.pace(1, 0, 0, 0), 10);
    }

    private static void lameHalf() {
        SlowPace x = Scene.level(2, 1, "vl(1=1)");
        x.lame(1, true);
        int[] pounds = {0, 1, 2, 3, 59, 60, 61, 1000};
        int[] halves = {0, 0, 1, 1, 29, 30, 30, 30};
        for (int i = 0; i < pounds.length; i++) {
            due("5 half of " + pounds[i] + ", at most of 60", x.pace(1, pounds[i], 0, 0), halves[i]);
        }
        Told.text(x, "v61-l(1=1)");
        due("5 what he can carry at 30", x.carry(1, 30, 0, 0), 1);
        due("5 at 31", x.carry(1, 31, 0, 0), -1);
        due("5 at 1", x.carry(1, 1, 0, 0), 59);
        Told.text(x, "v1(1=1)");
        due("5 half of 1: he can't go", x.parts(0, 0, 0, 0), 0);
        due("5 nor in a band", x.bands(1, 2, 0), -2);
    }

    private static void lameIsKept() {
        SlowPace x = Scene.level(1, 1, "v20(1=1)");
        x.plan(0);
        Told.march(x, 0);
        due("5 30 minutes", x.ran(0), 30);
        x.lame(0, true);
        due("5 the march stays", x.count(7), 1);
        due("5 the plan stays", x.count(6), 1);
        due("5 an hour", x.ran(0), 60);
        due("5 the best is of an hour too", x.best(-1), 60);
        Told.text(x, "v30(1=1)");
        due("5 lame under another text", x.pace(0, 0, 0, 0), 15);
        x.lame(0, false);
        due("5 no more", x.best(-1), 20);
    }

    private static void changeBounds() {
        SlowPace x = new SlowPace();
        int[] refused = {-1, 121, LOWEST, HIGHEST};
        for (int minutes : refused) {
            due("6 change(" + minutes + ")", x.change(minutes), false);
            due("6 10 as at first", x.count(5), 10);
        }
        int[] fine = {0, 1, 119, 120, 10};
        for (int minutes : fine) {
            due("6 change(" + minutes + ")", x.change(minutes), true);
            due("6 it costs so much", x.count(5), minutes);
        }
        due("6 as it is", x.change(10), true);
        x.change(120);
        x.change(121);
        due("6 refused: as before", x.count(5), 120);
    }

    private static void changeIsKept() {
        SlowPace x = Scene.level(1, 2, "v60(1=1)");
        x.plan(0);
        x.plan(1);
        Told.march(x, 0, 1);
        due("6 10 at first", x.ran(0), 30);
        x.change(0);
        due("6 the march stays", x.ran(0), 20);
        x.change(120);
        due("6 120", x.ran(0), 140);
        x.change(-1);
        due("6 refused", x.ran(0), 140);
        due("6 the plans stay", x.count(6), 3);
        x.walker(0, 50);
        x.load(1, -1, 0);
        due("6 nothing else changes it", x.count(5), 120);
    }

    private static void feedBounds() {
        SlowPace x = new SlowPace();
        for (int i = 1; i <= 11; i++) {
            due("7 feed " + i, x.feed(0, 0, 0, 0, 0), 20 * i);
        }
        due("7 a twelfth would be 240", x.feed(1, 2, 3, 4, 5), -1);
        due("7 220 are on it", x.count(4), 220);
        SlowPace y = Scene.level(1, 1, "v1(1=1)");
        y.feed('v' << 24 | '7' << 16 | '+' << 8 | '0', 0x2b302b30, 0x2b302b30, 0x2b302b30, 0x2b302b30);
        for (int i = 0; i < 9; i++) {
            y.feed(0x2b302b30, 0x2b302b30, 0x2b302b30, 0x2b302b30, 0x2b302b30);
        }
        y.feed(0x28313d31, 0x29202020, 0, 0, 0);
        due("7 the twelfth", y.feed(-1, -1, -1, -1, -1), -1);
        due("7 what was on it is on it still", y.text(200), -1200);
        due("7 empty then", y.feed(0, 0, 0, 0, 0), 20);
    }

    private static void feedOrder() {
        SlowPace x = Scene.level(1, 1, "v1(1=1)");
        x.feed('v' << 24 | '1' << 16 | '+' << 8 | '2', '+' << 24 | '4' << 16 | '+' << 8 | '8',
                '+' << 24 | 'l' << 16 | '*' << 8 | '3', '+' << 24 | 'w' << 16 | '+' << 8 | 't',
                '-' << 24 | 'h' << 16 | '(' << 8 | '1');
        due("7 behind the tape", x.feed('=' << 24 | '1' << 16 | ')' << 8 | ';', 0, 0, 0, 0), 40);
        due("7 the highest byte of each first", x.text(23), 1);
        due("7 1 + 2 + 4 + 8 + 6", x.pace(0, 2, 0, 0), 21);
        x.load(1, -1, 0);
        x.feed(0xff000000, 0, 0, 0, 0);
        due("7 a byte of 255 is no walker", x.plan(0), false);
        x.feed(0x00ffffff, -1, -1, -1, -1);
        due("7 its first byte alone", x.plan(0), true);
        x.feed(0x80000000, 0, 0, 0, 0);
        due("7 a byte of 128 is no walker", x.plan(0), false);
    }
}
