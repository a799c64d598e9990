/** The edges of what is asked on one piece (promises 9 to 20): bounds, the empty and the full, of like ones which. */
public final class AskEdgeTest {
    private static final Told TOLD = new Told();
    private static final int LOWEST = Integer.MIN_VALUE;
    private static final int HIGHEST = Integer.MAX_VALUE;

    /** A question on a piece by those who are so tired. */
    private interface Asked {
        int of(SlowPace x, int piece, int tiredness);
    }

    public static void main(String[] args) {
        places();
        paceBounds();
        minutes();
        carryBounds();
        carryUpTo();
        carryOfEach();
        partsBounds();
        partsOfAll();
        partsTiredness();
        partsSpare();
        wholeWhat();
        wholeRows();
        wholeOwners();
        wholeAllGo();
        wholeAsTheyAre();
        wont();
        whoGrows();
        whoBounds();
        poundsLeast();
        poundsNever();
        aheadBounds();
        aheadLater();
        aheadPairs();
        stagesBounds();
        stagesRounded();
        goesLeast();
        carriedBounds();
        carriedLike();
        muleBounds();
        muleWhere();
        System.exit(TOLD.end());
    }

    private static void due(String what, long got, long want) {
        TOLD.due(what, got, want);
    }

    private static void due(String what, boolean got, boolean want) {
        TOLD.due(what, got, want);
    }

    private static void places() {
        place("11", -1, (x, piece, tiredness) -> x.parts(5, piece, tiredness, 0));
        place("11", -1, (x, piece, tiredness) -> x.parts(5, piece, tiredness, 1));
        place("11", -1, (x, piece, tiredness) -> x.parts(5, piece, tiredness, 2));
        place("12", -3, (x, piece, tiredness) -> x.whole(piece, tiredness, -1));
        place("12", -3, (x, piece, tiredness) -> x.whole(piece, tiredness, 0));
        place("12", -3, (x, piece, tiredness) -> x.whole(piece, tiredness, 9));
        place("13", -1000000, SlowPace::wont);
        place("14", -2, (x, piece, tiredness) -> x.who(piece, tiredness, 0));
        place("14", -2, (x, piece, tiredness) -> x.who(piece, tiredness, 1));
        place("15", -1, (x, piece, tiredness) -> x.pounds(0, piece, tiredness));
        place("16", -1, (x, piece, tiredness) -> x.ahead(piece, tiredness, 0, 0));
        place("16", -1, (x, piece, tiredness) -> x.ahead(piece, tiredness, 600, 2));
        place("17", -1, (x, piece, tiredness) -> x.stages(piece, tiredness, 1));
        place("17", -1, (x, piece, tiredness) -> x.stages(piece, tiredness, 5));
        place("18", -1, SlowPace::goes);
        place("19", -3, (x, piece, tiredness) -> x.carried(piece, tiredness, 0));
        place("19", -3, (x, piece, tiredness) -> x.carried(piece, tiredness, 1));
        place("20", -1, (x, piece, tiredness) -> x.mule(1, 1, tiredness, 0) + 0 * piece);
    }

    /** Refused where no such piece is, for no such tiredness and for nobody; answered at the edges within. */
    private static void place(String promise, int refused, Asked asked) {
        SlowPace x = Scene.laden(Scene.level(3, 2, "v40-l-t(1=1)"), 10);
        SlowPace nobody = Scene.laden(Scene.level(0, 2, "v40-l-t(1=1)"), 10);
        int[] pieces = {-1, 2, 9, 10, LOWEST, HIGHEST};
        int[] tired = {-1, 46656, LOWEST, HIGHEST};
        boolean anywhere = promise.equals("20");
        for (int piece : pieces) {
            due(promise + " piece " + piece, asked.of(x, piece, 0) == refused, !anywhere);
        }
        for (int tiredness : tired) {
            due(promise + " tiredness " + tiredness, asked.of(x, 0, tiredness), refused);
        }
        int[] fine = {0, 1, 5, 6, 215, 216, 46655};
        for (int tiredness : fine) {
            due(promise + " tiredness " + tiredness, asked.of(x, 1, tiredness) != refused, true);
            due(promise + " piece 0, tiredness " + tiredness, asked.of(x, 0, tiredness) != refused, true);
        }
        due(promise + " nobody is there", asked.of(nobody, 0, 0), refused);
        due(promise + " nor on piece 1", asked.of(nobody, 1, 0), refused);
        due(promise + " no pieces", asked.of(Scene.laden(Scene.level(3, 0, "v9(1=1)"), 10), 0, 0), refused);
    }

    private static void paceBounds() {
        SlowPace x = Scene.level(2, 2, "v7(1=1)");
        int[][] refused = {{-1, 0, 0, 0}, {2, 0, 0, 0}, {6, 0, 0, 0}, {0, -1, 0, 0}, {0, 1001, 0, 0}, {0, 0, -1, 0},
            {0, 0, 6, 0}, {0, 0, 0, -1}, {0, 0, 0, 2}, {LOWEST, 0, 0, 0}, {HIGHEST, 0, 0, 0}, {0, LOWEST, 0, 0},
            {0, HIGHEST, 0, 0}, {0, 0, LOWEST, 0}, {0, 0, HIGHEST, 0}, {0, 0, 0, LOWEST}, {0, 0, 0, HIGHEST}};
        for (int[] of : refused) {
            String call = "9 pace(" + of[0] + ", " + of[1] + ", " + of[2] + ", " + of[3] + ")";
            due(call, x.pace(of[0], of[1], of[2], of[3]), -1);
        }
        int[][] fine = {{0, 0, 0, 0}, {1, 1000, 5, 1}, {0, 1, 1, 1}, {1, 999, 4, 0}, {0, 401, 0, 0}};
        for (int[] of : fine) {
            due("9 within the bounds", x.pace(of[0], of[1], of[2], of[3]), 7);
        }
        due("9 no walkers", Scene.level(0, 1, "v7(1=1)").pace(0, 0, 0, 0), -1);
        due("9 no pieces", Scene.level(1, 0, "v7(1=1)").pace(0, 0, 0, 0), -1);
        SlowPace none = new SlowPace();
        none.walker(0, 50);
        none.piece(1, 0);
        due("9 no text: one can't go", none.pace(0, 0, 0, 0), 0);
    }

    private static void minutes() {
        int[] paces = {1, 2, 7, 9, 10, 11, 29, 30, 31, 59, 60};
        int[] ofOneMile = {600, 300, 86, 67, 60, 55, 21, 20, 20, 11, 10};
        int[] ofTwenty = {12000, 6000, 1715, 1334, 1200, 1091, 414, 400, 388, 204, 200};
        for (int i = 0; i < paces.length; i++) {
            SlowPace x = Scene.level(1, 1, "v" + paces[i] + "(1=1)");
            x.piece(20, 0);
            due("11 a mile at " + paces[i], x.parts(0, 0, 0, 2), ofOneMile[i]);
            due("11 twenty miles at " + paces[i], x.parts(0, 1, 0, 2), ofTwenty[i]);
            due("12 a mile at " + paces[i], x.whole(0, 0, 9), ofOneMile[i]);
        }
        SlowPace x = Scene.level(3, 1, "v20-w*5(1=1)");
        due("a band goes at the least pace of all in it", x.whole(0, 0, 9), 60);
        due("in parts too", x.parts(0, 0, 0, 2), 60);
    }

    private static void carryBounds() {
        SlowPace x = Scene.level(2, 2, "v60(1=1)");
        int[][] refused = {{-1, 1, 0, 0}, {2, 1, 0, 0}, {6, 1, 0, 0}, {0, 0, 0, 0}, {0, 61, 0, 0}, {0, -1, 0, 0},
            {0, 1, -1, 0}, {0, 1, 6, 0}, {0, 1, 0, -1}, {0, 1, 0, 2}, {LOWEST, 1, 0, 0}, {HIGHEST, 1, 0, 0},
            {0, LOWEST, 0, 0}, {0, HIGHEST, 0, 0}, {0, 1, LOWEST, 0}, {0, 1, HIGHEST, 0}, {0, 1, 0, LOWEST},
            {0, 1, 0, HIGHEST}};
        for (int[] of : refused) {
            String call = "10 carry(" + of[0] + ", " + of[1] + ", " + of[2] + ", " + of[3] + ")";
            due(call, x.carry(of[0], of[1], of[2], of[3]), -2);
        }
        int[][] fine = {{0, 1, 0, 0}, {1, 60, 5, 1}, {0, 60, 0, 1}, {1, 1, 5, 0}, {0, 2, 4, 0}, {1, 59, 1, 0}};
        for (int[] of : fine) {
            due("10 within the bounds", x.carry(of[0], of[1], of[2], of[3]), 400);
        }
        due("10 no walkers", Scene.level(0, 1, "v7(1=1)").carry(0, 1, 0, 0), -2);
        due("10 no pieces", Scene.level(1, 0, "v7(1=1)").carry(0, 1, 0, 0), -2);
    }

    private static void carried(String text, int p, int want) {
        due("10 " + text + " at " + p, Scene.level(1, 1, text).carry(0, p, 0, 0), want);
    }

    private static void carryUpTo() {
        carried("v60(l<401)", 60, 400);
        carried("v60(l<400)", 60, 399);
        carried("v60(1=1)", 1, 400);
        carried("v1(1=1)", 1, 400);
        carried("v1(1=1)", 2, -1);
        carried("v60(l=0)", 60, 0);
        carried("v60(l=0)", 1, 0);
        carried("v60(l>0)", 1, -1);
        carried("v0(1=1)", 1, -1);
        carried("v60(l<200|l>300)", 60, 199);
        carried("v30(l<5);v60(1=1)", 31, -1);
        carried("v30(l<5);v60(1=1)", 30, 400);
        carried("v60(l<5);v10(l<7);v60(1=1)", 11, 4);
        carried("v60(l<5);v10(l<7);v60(1=1)", 10, 400);
        carried("v60-l(1=1)", 60, 0);
        carried("v60-l(1=1)", 1, 59);
        carried("v60-l/7(1=1)", 53, 55);
        carried("v60-l/7(1=1)", 3, 400);
        carried("v60-l/7(1=1)", 4, 398);
        SlowPace x = Scene.level(1, 1, "v20(l<400);v9(l=400);v40(1=1)");
        due("10 400 is asked", x.carry(0, 10, 0, 0), 399);
        due("10 401 is not", x.carry(0, 9, 0, 0), 400);
    }

    /** Each walker, however tired, on each piece has his own answer, in whatever order they are asked. */
    private static void carryOfEach() {
        SlowPace x = Scene.level(6, 10, "v1(l<w*60+t*10+i+1)");
        SlowPace y = Scene.level(6, 10, "v1(l<w*60+t*10+i+1)");
        for (int i = 0; i < 360; i++) {
            due("10 of " + i, x.carry(i / 60, 1, i / 10 % 6, i % 10), i);
            int k = 359 - i;
            due("10 from the last on, of " + k, y.carry(k / 60, 1, k / 10 % 6, k % 10), k);
        }
    }

    private static void partsBounds() {
        SlowPace x = Scene.level(6, 1, "v60(1=1)");
        int[][] refused = {{-1, 0}, {2401, 0}, {LOWEST, 0}, {HIGHEST, 0}, {0, -1}, {0, 3}, {0, LOWEST}, {0, HIGHEST}};
        for (int[] of : refused) {
            due("11 parts(" + of[0] + ", 0, 0, " + of[1] + ")", x.parts(of[0], 0, 0, of[1]), -1);
        }
        due("11 2400", x.parts(2400, 0, 0, 0), 60);
        due("11 2400, none spare", x.parts(2400, 0, 0, 1), 0);
        due("11 2400, minutes", x.parts(2400, 0, 0, 2), 10);
        due("11 2399, one spare", x.parts(2399, 0, 0, 1), 1);
        due("11 none, all spare", x.parts(0, 0, 0, 1), 2400);
    }

    private static void partsOfAll() {
        SlowPace x = Scene.level(5, 1, "v60(1=1)");
        due("11 2000 of five", x.parts(2000, 0, 0, 0), 60);
        due("11 2001 of five", x.parts(2001, 0, 0, 0), 0);
        due("11 then none spare", x.parts(2001, 0, 0, 1), 0);
        due("11 then no minutes", x.parts(2001, 0, 0, 2), -2);
        x = Scene.level(2, 1, "v60(w=0|l>0)");
        due("11 one who can't go", x.parts(0, 0, 0, 0), 0);
        due("11 however little", x.parts(1, 0, 0, 0), 0);
        due("11 spare", x.parts(0, 0, 0, 1), 0);
        due("11 minutes", x.parts(0, 0, 0, 2), -2);
        x = Scene.level(2, 1, "v60-w*50(l<10)");
        due("11 none below 0", x.parts(9, 0, 0, 0), 10);
        due("11 though the other could", x.parts(0, 0, 0, 0), 10);
        x = Scene.level(1, 1, "v60-l(1=1)");
        due("11 59 at 1", x.parts(59, 0, 0, 0), 1);
        due("11 59 in minutes", x.parts(59, 0, 0, 2), 600);
        due("11 60 at none", x.parts(60, 0, 0, 0), 0);
        due("11 0 at 60", x.parts(0, 0, 0, 0), 60);
    }

    private static void partsTiredness() {
        SlowPace x = Scene.level(6, 1, "v60-t-w(t>0);v60(1=1)");
        int one = 1;
        for (int w = 0; w < 6; w++) {
            for (int t = 1; t < 6; t++) {
                due("11 walker " + w + " is " + t + " tired", x.parts(0, 0, t * one, 0), 60 - t - w);
                due("12 walker " + w + " is " + t + " tired", x.whole(0, t * one, -1), 60 - t - w);
            }
            one *= 6;
        }
        due("11 all are 5 tired", x.parts(0, 0, 46655, 0), 50);
        due("11 all but the last", x.parts(0, 0, 7775, 0), 51);
        SlowPace alone = Scene.level(1, 1, "v60-t(1=1)");
        due("11 how tired those are who aren't there", alone.parts(0, 0, 46650, 0), 60);
        due("11 walker 0 alone", alone.parts(0, 0, 46655, 0), 55);
    }

    private static void partsSpare() {
        SlowPace x = Scene.level(2, 1, "v40(l<11);v20(l<31)");
        int[] pounds = {0, 19, 20, 21, 59, 60, 61};
        int[] paces = {40, 40, 40, 20, 20, 20, 0};
        int[] spare = {20, 1, 0, 39, 1, 0, 0};
        int[] minutes = {15, 15, 15, 30, 30, 30, -2};
        for (int i = 0; i < pounds.length; i++) {
            due("11 pace of " + pounds[i], x.parts(pounds[i], 0, 0, 0), paces[i]);
            due("11 spare of " + pounds[i], x.parts(pounds[i], 0, 0, 1), spare[i]);
            due("11 minutes of " + pounds[i], x.parts(pounds[i], 0, 0, 2), minutes[i]);
        }
        x = Scene.level(2, 1, "v20(l<10);v30(1=1)");
        due("11 from 0 on", x.parts(30, 0, 0, 0), 20);
        due("11 at 20 all of it", x.parts(30, 0, 0, 1), 770);
    }

    private static void wholeWhat() {
        SlowPace x = Scene.level(1, 1, "v20(1=1)");
        int[] none = {-2, 10, 8, 0, LOWEST, HIGHEST};
        for (int what : none) {
            due("12 without loads, what " + what, x.whole(0, 0, what), -3);
        }
        due("12 the pace of no loads", x.whole(0, 0, -1), 20);
        due("12 the minutes of no loads", x.whole(0, 0, 9), 30);
        Scene.laden(x, 1, 2, 3, 4, 5, 6, 7, 8);
        due("12 load 7 of eight", x.whole(0, 0, 7), 0);
        due("12 load 8 of eight", x.whole(0, 0, 8), -3);
        Scene.laden(x, 9);
        due("12 load 8 of nine", x.whole(0, 0, 8), 0);
        due("12 9 is for minutes", x.whole(0, 0, 9), 30);
        due("12 10", x.whole(0, 0, 10), -3);
        due("12 -2", x.whole(0, 0, -2), -3);
        Told.text(x, "v20(l<45)");
        due("12 no pace", x.whole(0, 0, -1), 0);
        due("12 then no walker", x.whole(0, 0, 0), -2);
        due("12 nor for the last one", x.whole(0, 0, 8), -2);
        due("12 then no minutes", x.whole(0, 0, 9), -2);
        due("12 no such what all the same", x.whole(0, 0, 10), -3);
    }

    private static void row(String what, SlowPace x, int pace, int... walkers) {
        due("12 " + what + ", pace", x.whole(0, 0, -1), pace);
        for (int load = 0; load < walkers.length; load++) {
            due("12 " + what + ", load " + load, x.whole(0, 0, load), walkers[load]);
        }
    }

    private static SlowPace loaded(int walkers, int... weights) {
        return Scene.laden(Scene.level(walkers, 1, "v60-l(1=1)"), weights);
    }

    private static void wholeRows() {
        row("one load", loaded(2, 10), 50, 0);
        row("two alike", loaded(2, 10, 10), 50, 0, 1);
        row("the least row", loaded(3, 10, 20, 30), 30, 0, 0, 1);
        row("the least row", loaded(3, 30, 20, 10), 30, 0, 1, 1);
        row("not below the pace", loaded(2, 10, 30, 20), 30, 0, 1, 0);
        row("the first ones must give way", loaded(2, 10, 20, 20, 30), 20, 0, 1, 1, 0);
        row("all that fits to the first", loaded(3, 5, 5, 5, 5, 20), 40, 0, 0, 0, 0, 1);
        row("59 together", loaded(1, 58, 1), 1, 0, 0);
        row("60 together", loaded(1, 59, 1), 0, -2, -2);
        row("six and nine", loaded(6, 30, 30, 30, 30, 30, 10, 10, 10, 1), 29, 0, 1, 2, 3, 4, 5, 5, 5, 0);
        SlowPace x = Scene.laden(Scene.level(2, 1, "v60-l-w*10(1=1)"), 10);
        row("the quicker one takes it", x, 50, 0);
        x = Scene.laden(Scene.level(2, 1, "v50-l+w*10(1=1)"), 10, 1);
        row("and if he is the second", x, 49, 1, 0);
        x = Scene.laden(Scene.level(1, 1, "v40(1=1)"), 100, 100, 100, 100);
        row("400 pounds", x, 40, 0, 0, 0, 0);
        row("401 pounds", Scene.laden(x, 1), 0, -2, -2, -2, -2, -2);
    }

    private static void wholeOwners() {
        SlowPace x = Scene.level(2, 1, "v60-l(1=1)");
        x.load(50, 1, 0);
        Scene.laden(x, 20, 30);
        row("the others' least row", x, 10, 1, 0, 0);
        Scene.laden(x, 1);
        row("one pound more", x, 9, 1, 0, 0, 0);
        x = Scene.level(2, 1, "v60-l(1=1)");
        x.load(10, 0, 0);
        x.load(10, 0, 0);
        row("both are his", x, 40, 0, 0);
        x = Scene.level(3, 1, "v60-l(1=1)");
        x.load(30, 2, 0);
        x.load(30, -1, 0);
        x.load(30, 0, 0);
        row("between two owners", x, 30, 2, 1, 0);
        x = Scene.level(2, 1, "v60-l*w(1=1)");
        x.load(60, 1, 0);
        row("he can't, and does not give it up", x, 0, -2);
        x = Scene.level(2, 1, "v60-l*w(1=1)");
        x.load(59, 1, 0);
        row("he just can", x, 1, 1);
    }

    private static void wholeAllGo() {
        SlowPace x = Scene.laden(Scene.level(2, 1, "v60(w=0|l>0)"), 10);
        row("who can't go with nothing can't go at all", x, 0, -2);
        Told.text(x, "v60(w=0);v1(l=0)");
        row("who can go just with nothing", x, 1, 0);
        Told.text(x, "v60(w=0);v1(l>0);v2(1=1)");
        row("who goes slower with something", x, 2, 0);
        x.lame(1, true);
        row("lame", x, 1, 0);
        x = Scene.laden(Scene.level(1, 1, "v60(l<5);v10(l<7);v60(1=1)"), 8);
        row("by what he can carry, not by his pace with it", x, 10, 0);
        due("9 his pace with it", x.pace(0, 8, 0, 0), 60);
        x = Scene.laden(Scene.level(2, 1, "v60(1=1)"), 1);
        x.lame(1, true);
        row("the other one is lame", x, 30, 0);
        row("60", Scene.laden(Scene.level(2, 1, "v60(1=1)"), 1), 60, 0);
    }

    private static void wholeAsTheyAre() {
        SlowPace x = Scene.level(2, 4, "v60-l(1=1)");
        x.load(30, 0, 15);
        x.load(20, 0, 10);
        x.load(10, -1, 0);
        int[] paces = {10, 35, 50, 50};
        int[] minutes = {60, 18, 12, 12};
        int[] last = {1, 1, 0, 0};
        for (int i = 0; i < 4; i++) {
            due("12 pace at " + i, x.whole(i, 0, -1), paces[i]);
            due("12 minutes at " + i, x.whole(i, 0, 9), minutes[i]);
            due("12 what is eaten stays its owner's, at " + i, x.whole(i, 0, 1), 0);
            due("12 what is left, at " + i, x.whole(i, 0, 2), last[i]);
        }
    }

    private static void wont() {
        SlowPace x = Scene.level(2, 1, "v60-l(1=1)");
        due("13 no loads", x.wont(0, 0), 0);
        x.load(30, 0, 0);
        due("13 he may as well", x.wont(0, 0), 0);
        x.load(20, 0, 0);
        due("13 50 against 30", x.wont(0, 0), 60 - 20);
        x.load(9, 0, 0);
        due("13 59 against 30", x.wont(0, 0), 600 - 20);
        x.load(1, 0, 0);
        due("13 with owners no pace", x.wont(0, 0), -1000000);
        x.load(120, -1, 0);
        due("13 no pace at all", x.wont(0, 0), -1000000);
        x = Scene.level(2, 1, "v60-l*w-l(1=1)");
        x.load(10, 1, 0);
        due("13 owners are all the same ones behind it", x.wont(0, 0), 15 - 12);
        due("13 the owner still has it", x.whole(0, 0, 0), 1);
        x = Scene.level(1, 2, "v60-l(1=1)");
        x.load(40, 0, 20);
        due("13 on piece 1", x.wont(1, 0), 0);
    }

    private static void grows(String what, SlowPace x, int who, int by) {
        due("14 " + what, x.who(0, 0, 0), who);
        due("14 " + what + ", by how much", x.who(0, 0, 1), by);
    }

    private static void whoGrows() {
        grows("of like ones the lowest", loaded(2, 10), 0, 1);
        grows("by nobody", loaded(2, 10, 10), -1, 0);
        grows("three, two loads", loaded(3, 10, 10), -1, 0);
        SlowPace x = Scene.level(2, 1, "v60-l(1=1)");
        x.load(10, 1, 0);
        grows("by the owner", x, 1, 1);
        grows("by the slow one", Scene.level(3, 1, "v50-w%2(1=1)"), 1, 1);
        grows("by the last one", Scene.level(6, 1, "v20-w/5(1=1)"), 5, 1);
        grows("two are slow", Scene.level(3, 1, "v50-w/2*0-[w+1]/2(1=1)"), -1, 0);
        x = Scene.level(1, 1, "v20(1=1)");
        x.lame(0, true);
        grows("the lame one, behind the half", x, 0, 1);
        grows("one alone", Scene.level(1, 1, "v20(1=1)"), 0, 1);
        grows("one alone, laden", loaded(1, 10, 20), 0, 1);
        due("14 asked again", x.who(0, 0, 1), 1);
        due("14 his pace is as before", x.pace(0, 0, 0, 0), 10);
    }

    private static void whoBounds() {
        grows("60 is the most", Scene.level(1, 1, "v60(1=1)"), -1, 0);
        grows("59 grows to 60", Scene.level(1, 1, "v59(1=1)"), 0, 1);
        grows("who has 60 has 60 still", Scene.level(2, 1, "v60-w(1=1)"), 1, 1);
        grows("from none to 1", Scene.level(1, 1, "v0(1=1)"), 0, 1);
        grows("two from none", Scene.level(2, 1, "v0(1=1)"), -1, 0);
        grows("one from none", Scene.level(2, 1, "v1-w(1=1)"), 1, 1);
        grows("laden from none", loaded(1, 100), 0, 1);
        grows("400 pounds from none", Scene.laden(Scene.level(1, 1, "v0(1=1)"), 120, 120, 120, 40), 0, 1);
        grows("401 pounds from none", Scene.laden(Scene.level(1, 1, "v0(1=1)"), 120, 120, 120, 41), -1, 0);
        grows("401 pounds are too much", Scene.laden(Scene.level(1, 1, "v9(1=1)"), 120, 120, 120, 41), -1, 0);
        SlowPace x = Scene.level(1, 1, "v9(1=1)");
        int[] none = {-1, 2, LOWEST, HIGHEST};
        for (int what : none) {
            due("14 what " + what, x.who(0, 0, what), -2);
        }
    }

    private static int poundsOf(String text, int weight) {
        return Scene.laden(Scene.level(1, 1, text), weight).pounds(0, 0, 0);
    }

    private static void poundsLeast() {
        due("15 one less", poundsOf("v60-l(1=1)", 10), 1);
        due("15 ten less", poundsOf("v60-l/10(1=1)", 19), 10);
        due("15 one less", poundsOf("v60-l/10(1=1)", 10), 1);
        due("15 down to 0", poundsOf("v20(l<1);v10(1=1)", 10), 10);
        due("15 down to 0 of 120", poundsOf("v20(l<1);v10(1=1)", 120), 120);
        due("15 of 1", poundsOf("v20(l<1);v10(1=1)", 1), 1);
        due("15 from none on", poundsOf("v20(l<11)", 50), 40);
        due("15 from none on, all of it", poundsOf("v20(l<1)", 50), 50);
        SlowPace x = Scene.level(1, 3, "v20(l<1);v10(1=1)");
        x.load(10, -1, 9);
        due("15 as it is at the piece", x.pounds(0, 1, 0), 1);
        due("15 it is there still", x.count(11), 1);
        x = loaded(2, 40, 10, 10);
        due("15 the heavy one alone", x.pounds(0, 0, 0), 1);
        due("15 not the others", x.pounds(1, 0, 0), -2);
        x = Scene.level(2, 1, "v60-l(1=1)");
        x.load(20, 0, 0);
        x.load(20, 0, 0);
        due("15 an owner's", x.pounds(1, 0, 0), 1);
        due("15 another row is given then", loaded(2, 30, 20, 20).pounds(0, 0, 0), 11);
    }

    private static void poundsNever() {
        due("15 not beyond 60", poundsOf("v60-l/10(1=1)", 9), -2);
        due("15 not by all of it", poundsOf("v59-l/10(1=1)", 9), -2);
        due("15 none at all", poundsOf("v0(1=1)", 9), -2);
        SlowPace x = loaded(2, 10, 10);
        due("15 the other one is as heavy", x.pounds(0, 0, 0), -2);
        due("15 the other one is as heavy", x.pounds(1, 0, 0), -2);
        int[] none = {-1, 2, 8, 9, LOWEST, HIGHEST};
        for (int load : none) {
            due("15 no load " + load, x.pounds(load, 0, 0), -1);
        }
        due("15 without loads", Scene.level(1, 1, "v9(1=1)").pounds(0, 0, 0), -1);
        x = Scene.level(1, 3, "v20(l<1);v10(1=1)");
        x.load(10, -1, 5);
        due("15 eaten up", x.pounds(0, 2, 0), -2);
        due("15 not yet", x.pounds(0, 1, 0), 5);
    }

    private static void aheadBounds() {
        SlowPace x = Scene.level(3, 1, "v60-l(1=1)");
        int[][] refused = {{-1, 0}, {601, 0}, {LOWEST, 0}, {HIGHEST, 0}, {0, -1}, {0, 3}, {0, LOWEST}, {0, HIGHEST}};
        for (int[] of : refused) {
            due("16 ahead(0, 0, " + of[0] + ", " + of[1] + ")", x.ahead(0, 0, of[0], of[1]), -1);
        }
        due("16 0 minutes", x.ahead(0, 0, 0, 0), 10);
        due("16 600 minutes", x.ahead(0, 0, 600, 0), 610);
        due("16 of like ones the least row", x.ahead(0, 0, 0, 1), 0);
        due("16 of like ones the least row", x.ahead(0, 0, 0, 2), 1);
        SlowPace two = Scene.level(2, 1, "v60-l(1=1)");
        for (int what = 0; what < 3; what++) {
            due("16 two are too few", two.ahead(0, 0, 0, what), -1);
        }
        two.walker(0, 50);
        due("16 three are enough", two.ahead(0, 0, 0, 0), 10);
        Told.text(x, "v60(l>0|w>0)");
        for (int what = 0; what < 3; what++) {
            due("16 one can't go", x.ahead(0, 0, 0, what), -2);
        }
        Scene.laden(x, 60);
        Told.text(x, "v60-l(1=1)");
        due("16 none can", x.ahead(0, 0, 0, 0), -2);
    }

    private static void aheadLater() {
        SlowPace x = loaded(3, 30);
        int[] cook = {0, 9, 10, 11, 600};
        int[] minutes = {20, 20, 20, 21, 610};
        for (int i = 0; i < cook.length; i++) {
            due("16 the later of 20 and 10 + " + cook[i], x.ahead(0, 0, cook[i], 0), minutes[i]);
        }
        x = Scene.level(3, 1, "v60-l(1=1)");
        x.load(20, 0, 0);
        x.load(20, 1, 0);
        due("16 theirs are given up", x.ahead(0, 0, 0, 0), 30);
        x.load(19, 2, 0);
        due("16 59 pounds", x.ahead(0, 0, 0, 0), 600);
        x.load(1, -1, 0);
        due("16 60 pounds", x.ahead(0, 0, 0, 0), -2);
        x = Scene.level(3, 1, "v10(w=2&l>0);v60-l(1=1)");
        x.load(30, 2, 0);
        due("16 he keeps it unless he goes ahead", x.ahead(0, 0, 0, 0), 20);
        due("16 so he goes", x.ahead(0, 0, 0, 1), 0);
        due("16 so he goes", x.ahead(0, 0, 0, 2), 2);
        due("16 the load is his still", x.whole(0, 0, 0), 2);
        x = Scene.level(3, 1, "v60-t*10(1=1)");
        due("16 tired ones behind", x.ahead(0, 4, 40, 1), 1);
        due("16 tired ones behind", x.ahead(0, 4, 40, 0), 50);
        due("16 the two go at the lesser pace", x.ahead(0, 4 + 24, 40, 0), 70);
    }

    private static void aheadPairs() {
        SlowPace x = Scene.level(4, 1, "v60(l=0);v30(w=0&l<51|w=3&l<21|w>0&w<3&l<41);v10(1=1)");
        x.load(40, 0, 0);
        x.load(20, 3, 0);
        x.load(10, -1, 0);
        due("16 (0, 3) and (1, 2) alike", x.ahead(0, 0, 10, 0), 20);
        due("16 the least row is (0, 3)", x.ahead(0, 0, 10, 1), 0);
        due("16 the least row is (0, 3)", x.ahead(0, 0, 10, 2), 3);
        due("16 there are three walkers still", Scene.level(3, 1, "vn*10(1=1)").ahead(0, 0, 0, 0), 20);
        x = Scene.level(6, 1, "v30+w(1=1)");
        due("16 the last two", x.ahead(0, 0, 20, 1), 4);
        due("16 the last two", x.ahead(0, 0, 20, 2), 5);
        x = Scene.level(6, 1, "v35-w(1=1)");
        due("16 the first two", x.ahead(0, 0, 20, 1), 0);
        due("16 the first two", x.ahead(0, 0, 20, 2), 1);
        x = Scene.level(5, 1, "v60-t*5(1=1)");
        due("16 in the middle", x.ahead(0, 3 + 36 * 2 + 1296 * 3, 60, 1), 1);
        due("16 in the middle", x.ahead(0, 3 + 36 * 2 + 1296 * 3, 60, 2), 3);
    }

    private static void stagesBounds() {
        SlowPace x = Scene.level(1, 1, "v60(l<11);v20(l<21)");
        int[] none = {0, 6, -1, LOWEST, HIGHEST};
        for (int n : none) {
            due("17 n " + n, x.stages(0, 0, n), -1);
        }
        for (int n = 1; n <= 5; n++) {
            due("17 without loads, n " + n, x.stages(0, 0, n), 10 * (2 * n - 1));
        }
        due("18 without loads", x.goes(0, 0), 1);
        Told.text(x, "v60(l>0)");
        for (int n = 1; n <= 5; n++) {
            due("17 nobody can go, n " + n, x.stages(0, 0, n), -2);
        }
        due("18 nobody can go", x.goes(0, 0), -2);
    }

    private static int staged(int pounds, int n) {
        SlowPace x = Scene.laden(Scene.level(1, 1, "v60(l<11);v20(l<21)"), pounds);
        return x.stages(0, 0, n);
    }

    private static void stagesRounded() {
        int[][] rows = {{10, 10, 30, 50, 70, 90}, {11, 30, 30, 50, 70, 90}, {20, 30, 30, 50, 70, 90},
            {21, -2, 70, 50, 70, 90}, {30, -2, 70, 50, 70, 90}, {31, -2, 70, 110, 70, 90}, {40, -2, 70, 110, 70, 90},
            {41, -2, -2, 110, 150, 90}, {50, -2, -2, 110, 150, 90}, {51, -2, -2, 110, 150, 190},
            {60, -2, -2, 110, 150, 190}, {61, -2, -2, -2, 150, 190}, {80, -2, -2, -2, 150, 190},
            {81, -2, -2, -2, -2, 190}, {100, -2, -2, -2, -2, 190}, {101, -2, -2, -2, -2, -2}};
        for (int[] row : rows) {
            for (int n = 1; n <= 5; n++) {
                due("17 " + row[0] + " pounds in " + n, staged(row[0], n), row[n]);
            }
        }
        SlowPace x = Scene.laden(Scene.level(2, 1, "v60-w*30-l(1=1)"), 30);
        due("17 back at the least pace of all", x.stages(0, 0, 2), 20 + 20 + 20);
        due("17 none back", x.stages(0, 0, 1), 20);
        x = Scene.level(1, 2, "v60-l/2-t*10-h*5(1=1)");
        x.load(60, -1, 20);
        due("17 as it is at the piece", x.stages(1, 0, 2), 2 * 12 + 10);
        due("17 the tired go back tired", x.stages(1, 3, 2), 2 * 30 + 20);
        x.piece(1, 2);
        due("17 back on the same slope", x.stages(2, 0, 2), 2 * 14 + 12);
    }

    private static void goesLeast() {
        SlowPace x = Scene.laden(Scene.level(1, 1, "v60(l<11);v20(l<21)"), 20);
        due("18 30 and 30: the least", x.goes(0, 0), 1);
        Told.text(x, "v60(l<11);v19(l<21)");
        due("18 32 and 30", x.goes(0, 0), 2);
        Told.text(x, "v60(l<7);v20(l<21)");
        due("18 30 and 50", x.goes(0, 0), 1);
        Told.text(x, "v60(l<5);v1(l<21)");
        due("18 90 in five", x.goes(0, 0), 5);
        Told.text(x, "v60(l<5)");
        due("18 five alone", x.goes(0, 0), 5);
        Told.text(x, "v60(l<4)");
        due("18 a sixth would be needed", x.goes(0, 0), -2);
        Told.text(x, "v60(l<6);v8(l<21)");
        due("18 70 in four, 75 at once", x.goes(0, 0), 4);
        due("18 75 at once", x.stages(0, 0, 1), 75);
        Told.text(x, "v60(l<6);v9(l<21)");
        due("18 67 at once", x.goes(0, 0), 1);
    }

    private static void borne(String what, SlowPace x, int who, int minutes) {
        due("19 " + what, x.carried(0, 0, 0), who);
        due("19 " + what + ", minutes", x.carried(0, 0, 1), minutes);
    }

    private static void carriedBounds() {
        SlowPace x = Scene.level(1, 1, "v20(1=1)");
        int[] none = {-1, 2, LOWEST, HIGHEST};
        for (int what : none) {
            due("19 what " + what, x.carried(0, 0, what), -3);
        }
        borne("one alone is not carried", x, -1, 30);
        Told.text(x, "v0(1=1)");
        borne("one alone who can't go", x, -2, -2);
        x.walker(0, 250);
        Told.text(x, "v60(w=0&l<251)");
        borne("250 pounds", x, 1, 10);
        Told.text(x, "v60(w=0&l<250)");
        borne("249 are not enough", x, -2, -2);
        Told.text(x, "v60(w=1&l<51)");
        borne("the other way", x, 0, 10);
        Told.text(x, "v60(w=1&l<50)");
        borne("not 50", x, -2, -2);
        x = Scene.level(2, 1, "v60(w=0&l<400);v60(l<10&w=0)");
        x.load(120, -1, 0);
        x.load(120, -1, 0);
        x.load(109, 1, 0);
        borne("399 with his own", x, 1, 10);
        x.load(1, 1, 0);
        borne("400 with his own", x, -2, -2);
    }

    private static void carriedLike() {
        borne("55 and 56 are 11 minutes: nobody", Scene.level(2, 1, "v56-w(1=1)"), -1, 11);
        borne("59 is 11 minutes, 60 is 10", Scene.level(2, 1, "v60-w(1=1)"), 1, 10);
        borne("all alike: nobody", Scene.level(3, 1, "v60(1=1)"), -1, 10);
        borne("all alike and laden: nobody", loaded(3, 10, 10, 10), -1, 12);
        SlowPace x = Scene.level(3, 1, "v60-l/10(w<2);v1(l<11)");
        x.load(10, 2, 0);
        borne("his load is anybody's", x, 2, 11);
        due("19 it is his still", x.whole(0, 0, 0), 2);
        due("19 he goes still", x.whole(0, 0, -1), 1);
        due("19 no load more", x.count(1), 1);
        x = Scene.level(3, 1, "v20(w=1);v60-l/10(1=1)");
        borne("he in the middle", x, 1, 11);
        x = Scene.laden(Scene.level(3, 1, "v60-l-w*2(1=1)"), 55, 50, 50, 5, 1);
        borne("nobody has room for one", x, -1, 200);
        x = Scene.level(6, 1, "v30-w/5*20(1=1)");
        Scene.laden(x, 1, 1, 1, 1, 1, 1, 1, 1, 1);
        borne("nine loads and one", x, 5, 20);
        x = Scene.laden(Scene.level(2, 1, "v30-l/10-w*20(1=1)"), 1, 1, 1, 1, 1, 1, 1, 1, 1);
        borne("59 pounds", x, 1, 24);
        borne("whole, not in parts", Scene.level(3, 1, "v60(l<50&w<2)"), -2, -2);
        borne("whole", Scene.level(3, 1, "v60(l<51&w<2)"), 2, 10);
        borne("there are three walkers still", Scene.level(3, 1, "vn*10(w<2)"), 2, 20);
    }

    private static void muleBounds() {
        SlowPace x = Scene.laden(Scene.level(1, 3, "v60-l(1=1)"), 30);
        int[][] refused = {{0, 1, 0}, {501, 1, 0}, {-1, 1, 0}, {LOWEST, 1, 0}, {HIGHEST, 1, 0}, {1, 0, 0}, {1, -1, 0},
            {1, 4, 0}, {1, LOWEST, 0}, {1, HIGHEST, 0}, {1, 1, -1}, {1, 1, 2}, {1, 1, LOWEST}, {1, 1, HIGHEST}};
        for (int[] of : refused) {
            due("20 mule(" + of[0] + ", " + of[1] + ", 0, " + of[2] + ")", x.mule(of[0], of[1], 0, of[2]), -1);
        }
        due("20 one pound", x.mule(1, 1, 0, 1), 20 + 20 + 20);
        due("20 500 pounds, 1", x.mule(500, 1, 0, 1), 10 + 20 + 20);
        due("20 500 pounds, 2", x.mule(500, 2, 0, 1), 10 + 10 + 20);
        due("20 500 pounds, all", x.mule(500, 3, 0, 1), 10 + 10 + 10);
        due("20 all from the first on", x.mule(500, 3, 0, 0), 0);
        due("20 29", x.mule(29, 1, 0, 1), 11 + 20 + 20);
        due("20 30", x.mule(30, 1, 0, 1), 10 + 20 + 20);
        due("20 31", x.mule(31, 1, 0, 1), 10 + 20 + 20);
        SlowPace none = Scene.level(1, 0, "v60-l(1=1)");
        due("20 no pieces", none.mule(1, 1, 0, 0), -1);
        due("20 none for none", none.mule(1, 0, 0, 0), -1);
    }

    private static void muleWhere() {
        SlowPace x = Scene.laden(Scene.level(1, 3, "v60-l(1=1)"), 30);
        due("20 of like ones the first", x.mule(10, 1, 0, 0), 0);
        due("20 of like ones the first", x.mule(10, 2, 0, 0), 0);
        x.piece(5, 0);
        due("20 the last piece", x.mule(10, 1, 0, 0), 3);
        due("20 the last two", x.mule(10, 2, 0, 0), 2);
        due("20 the last two", x.mule(10, 2, 0, 1), 20 + 20 + 15 + 75);
        x = Scene.laden(Scene.level(1, 3, "v60-l(1=1)"), 70);
        due("20 60 are left", x.mule(10, 3, 0, 0), -2);
        due("20 60 are left", x.mule(10, 3, 0, 1), -2);
        due("20 59 are left", x.mule(11, 3, 0, 1), 1800);
        due("20 one piece without it", x.mule(500, 2, 0, 0), -2);
        x = Scene.level(1, 3, "v60-l(1=1)");
        x.load(70, -1, 20);
        due("20 where it must be", x.mule(11, 1, 0, 0), 0);
        due("20 what is eaten", x.mule(11, 1, 0, 1), 600 + 60 + 20);
        due("20 500 on the first", x.mule(500, 1, 0, 1), 10 + 60 + 20);
        x = Scene.laden(Scene.level(2, 2, "v60-l-t*10(1=1)"), 60);
        due("20 as tired as told, all along", x.mule(20, 1, 6 + 2, 1), 24 + 40);
        due("20 of all walkers", x.mule(20, 1, 0, 1), 15 + 20);
    }
}
