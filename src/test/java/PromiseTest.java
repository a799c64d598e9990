/** The promises one by one, with answers reckoned by hand from the document. */
public final class PromiseTest {
    private static final Told TOLD = new Told();

    public static void main(String[] args) {
        newObject();
        walker();
        load();
        piece();
        lame();
        change();
        feed();
        text();
        faults();
        pace();
        asked();
        carry();
        parts();
        whole();
        wont();
        who();
        pounds();
        ahead();
        stages();
        carried();
        mule();
        plan();
        march();
        ran();
        tired();
        gap();
        best();
        often();
        bands();
        kettle();
        check();
        count();
        kept();
        closest();
        order();
        System.exit(TOLD.end());
    }

    private static void due(String what, long got, long want) {
        TOLD.due(what, got, want);
    }

    private static void due(String what, boolean got, boolean want) {
        TOLD.due(what, got, want);
    }

    /** Walkers with knees 0 and 5, loads of 40, 20 and 30 pounds, pieces of 4 level miles and 2 uphill ones. */
    private static SlowPace two() {
        SlowPace x = new SlowPace();
        x.walker(0, 150);
        x.walker(5, 120);
        Told.text(x, "v40-l/5-k*2-h-t*3(1=1);g1(l>50);r2(1=1)");
        x.load(40, -1, 0);
        x.load(20, -1, 0);
        x.load(30, -1, 0);
        x.piece(4, 0);
        x.piece(2, 5);
        return x;
    }

    /** As many walkers as told, all alike, under a text. */
    private static SlowPace alike(int walkers, String text) {
        SlowPace x = new SlowPace();
        for (int i = 0; i < walkers; i++) {
            x.walker(0, 50);
        }
        due("text " + text, Told.text(x, text) > 0, true);
        return x;
    }

    private static void newObject() {
        SlowPace x = new SlowPace();
        due("1 NONE", SlowPace.NONE, -1);
        int[] counts = {0, 0, 0, 0, 0, 10, 0, 0, -1, -1, -1};
        for (int i = 0; i < counts.length; i++) {
            due("1 count(" + i + ")", x.count(i), counts[i]);
        }
        due("1 ran(0)", x.ran(0), -2);
        due("1 best(-1)", x.best(-1), -1);
        x.walker(0, 50);
        x.piece(1, 0);
        due("1 pace without a text", x.pace(0, 0, 0, 0), 0);
        due("1 carry without a text", x.carry(0, 1, 0, 0), -1);
    }

    private static void walker() {
        SlowPace x = new SlowPace();
        due("2 knee -1", x.walker(-1, 50), -1);
        due("2 knee 10", x.walker(10, 50), -1);
        due("2 weight 19", x.walker(0, 19), -1);
        due("2 weight 251", x.walker(0, 251), -1);
        due("2 none there", x.count(0), 0);
        due("2 first", x.walker(0, 20), 0);
        due("2 second", x.walker(9, 250), 1);
        x.piece(1, 0);
        due("2 plan", x.plan(0), true);
        due("2 march", Told.march(x, 0), true);
        due("2 refused", x.walker(0, 0), -1);
        due("2 march stays", x.count(7), 1);
        due("2 third", x.walker(3, 100), 2);
        due("2 march falls", x.count(7), 0);
        due("2 plans stay", x.count(6), 1);
        x.walker(0, 20);
        x.walker(0, 20);
        due("2 sixth", x.walker(0, 20), 5);
        due("2 seventh", x.walker(0, 20), -1);
        due("2 six there", x.count(0), 6);
    }

    private static void load() {
        SlowPace x = new SlowPace();
        due("3 owner that isn't there", x.load(1, 0, 0), -1);
        x.walker(0, 50);
        x.piece(1, 0);
        due("3 weight 0", x.load(0, -1, 0), -1);
        due("3 weight 121", x.load(121, -1, 0), -1);
        due("3 owner 1", x.load(1, 1, 0), -1);
        due("3 owner -2", x.load(1, -2, 0), -1);
        due("3 food -1", x.load(1, -1, -1), -1);
        due("3 food 21", x.load(1, -1, 21), -1);
        x.plan(2);
        Told.march(x, 2);
        due("3 march told", x.count(7), 1);
        due("3 refused", x.load(0, -1, 0), -1);
        due("3 plans stay", x.count(6), 4);
        due("3 first", x.load(1, -1, 0), 0);
        due("3 plans fall", x.count(6), 0);
        due("3 march falls", x.count(7), 0);
        for (int i = 1; i < 9; i++) {
            due("3 load " + i, x.load(120, 0, 20), i);
        }
        due("3 tenth", x.load(1, -1, 0), -1);
        due("3 nine there", x.count(1), 9);
        due("3 all pounds", x.count(10), 961);
    }

    private static void piece() {
        SlowPace x = new SlowPace();
        x.walker(0, 50);
        due("4 miles 0", x.piece(0, 0), -1);
        due("4 miles 21", x.piece(21, 0), -1);
        due("4 slope -10", x.piece(1, -10), -1);
        due("4 slope 10", x.piece(1, 10), -1);
        due("4 first", x.piece(1, -9), 0);
        x.plan(0);
        Told.march(x, 0);
        due("4 refused", x.piece(0, 0), -1);
        due("4 march stays", x.count(7), 1);
        due("4 second", x.piece(20, 9), 1);
        due("4 march falls", x.count(7), 0);
        due("4 plans stay", x.count(6), 1);
        for (int i = 2; i < 10; i++) {
            due("4 piece " + i, x.piece(1, 0), i);
        }
        due("4 eleventh", x.piece(1, 0), -1);
        Told.text(x, "v30+h+m+i(1=1)");
        due("4 letters of piece 0", x.pace(0, 0, 0, 0), 22);
        due("4 letters of piece 1", x.pace(0, 0, 0, 1), 60);
        due("4 letters of piece 9", x.pace(0, 0, 0, 9), 40);
    }

    private static void lame() {
        SlowPace x = two();
        due("5 no such", x.lame(2, true), false);
        due("5 no such", x.lame(-1, true), false);
        due("5 so it is", x.lame(0, false), false);
        Told.plan(x, 0, 0, 1, 0);
        Told.march(x, 0, 0);
        due("5 pace", x.pace(1, 30, 0, 0), 24);
        due("5 lame", x.lame(1, true), true);
        due("5 lame already", x.lame(1, true), false);
        due("5 half", x.pace(1, 30, 0, 0), 12);
        due("5 half, rounded down", x.pace(1, 35, 0, 0), 11);
        due("5 can carry", x.carry(1, 12, 0, 0), 34);
        due("5 march stays", x.count(7), 1);
        due("5 march is slower", x.ran(0), 185 + 120);
        due("5 no more", x.lame(1, false), true);
        due("5 pace again", x.pace(1, 30, 0, 0), 24);
    }

    private static void change() {
        SlowPace x = two();
        due("6 at first", x.count(5), 10);
        due("6 -1", x.change(-1), false);
        due("6 121", x.change(121), false);
        due("6 stays", x.count(5), 10);
        due("6 0", x.change(0), true);
        due("6 120", x.change(120), true);
        due("6 as it is", x.change(120), true);
        due("6 told", x.count(5), 120);
        Told.plan(x, 0, 0, 1, 0);
        Told.plan(x, 1, 0, 0, 1);
        Told.march(x, 0, 1);
        due("6 run", x.ran(0), 277);
        x.change(7);
        due("6 run", x.ran(0), 164);
        due("6 march stays", x.count(7), 1);
    }

    private static void feed() {
        SlowPace x = alike(1, "v9(0=1)");
        x.piece(1, 0);
        due("7 empty then", x.count(4), 0);
        due("7 highest first", x.feed('v' << 24 | '1' << 16 | '7' << 8 | '(', '1' << 24 | '=' << 16 | '1' << 8 | ')',
                0, 0, 0), 20);
        due("7 text", x.text(8), 1);
        due("7 pace", x.pace(0, 0, 0, 0), 17);
        for (int i = 1; i <= 11; i++) {
            due("7 feed " + i, x.feed(-1, i, 0, 0, 0), 20 * i);
        }
        due("7 full", x.feed(0, 0, 0, 0, 0), -1);
        due("7 stays full", x.count(4), 220);
    }

    private static void text() {
        SlowPace x = alike(1, "v17(1=1);g1(1=1)");
        x.piece(1, 0);
        due("8 clauses", x.count(3), 2);
        Told.bytes(x, 'v', '1', '8', '(', '1', '=', '1', ')');
        due("8 0", x.text(0), -1);
        due("8 -1", x.text(-1), -1);
        due("8 21", x.text(21), -1);
        due("8 201", x.text(201), -1);
        due("8 tape stays", x.count(4), 20);
        due("8 a fault", x.text(9), -1008);
        due("8 empty then", x.count(4), 0);
        due("8 the text before stays", x.count(3), 2);
        due("8 the text before stays", x.pace(0, 0, 0, 0), 17);
        due("8 another one", Told.text(x, "v18(1=1)"), 1);
        due("8 in its place", x.pace(0, 0, 0, 0), 18);
        String nothing = "+0".repeat(96);
        due("8 200 bytes", Told.text(x, "v10" + nothing + "(1=1)"), 1);
        due("8 201 bytes", Told.text(x, "v100" + nothing + "(1=1)"), -1);
        due("8 the tape stays", x.count(4), 220);
        due("8 its first 200", x.text(200), -1200);
        due("8 14 clauses", Told.text(x, "v0(0=1);".repeat(13) + "r1(1=1)"), 14);
        due("8 told", x.count(3), 14);
    }

    private static void faults() {
        SlowPace x = new SlowPace();
        String[] texts = {"w1(1=1)", "v", "v(1=1)", "v-1(1=1)", "v1", "v1=1", "v1(", "v1()", "v1(1)", "v1(1+)",
            "v1(1=1", "v1(1=1)v", "v1(1=1);", "v1(1=1);;", "vq(1=1)", "v1(q=1)", "rq(1=1)", "g1(q=1&x=1)", "v1((1)=1)",
            "v1((1=1)=1)", "v1(1=1=1)", "v1(!)", "v[1(1=1)", "v[1](]=1)", "v1 (1=1)", "v4w(1=1)", "v1(1=1&)",
            "v1(1=1|&1=1)", "v1(1<=1)", "v1([1=1])", "v1(1=[1)", "V1(1=1)"};
        int[] places = {0, 1, 1, 1, 2, 2, 3, 3, 4, 5, 6, 7, 8, 8, 1, 3, 1, 7, 5, 8, 6, 4, 3, 5, 2, 2, 7, 7, 5, 5, 7, 0};
        for (int i = 0; i < texts.length; i++) {
            due("8 fault of " + texts[i], Told.text(x, texts[i]), -1000 - places[i]);
        }
        due("8 sixth digit", Told.text(x, "v123456(1=1)"), -2006);
        due("8 sixth digit", Told.text(x, "v1(1=000000)"), -2010);
        due("8 five digits", Told.text(x, "v99999+00000(1=1)"), 1);
        String fourteen = "v0(0=1);".repeat(14);
        due("8 15th clause", Told.text(x, fourteen + "g1(1=1)"), -4112);
        due("8 15th clause, faulty", Told.text(x, fourteen + "v"), -4112);
        due("8 not a letter", Told.text(x, fourteen + "w"), -1112);
        due("8 nothing behind the ;", Told.text(x, fourteen), -1112);
        due("8 six [", Told.text(x, "v[[[[[[1]]]]]](1=1)"), 1);
        due("8 seven [", Told.text(x, "v[[[[[[[1]]]]]]](1=1)"), -5007);
        due("8 five ( in (", Told.text(x, "v1((((((1=1))))))"), 1);
        due("8 six ( in (", Told.text(x, "v1(((((((1=1)))))))"), -5008);
        due("8 five ! in (", Told.text(x, "v1(!!!!!1=1)"), 1);
        due("8 six ! in (", Told.text(x, "v1(!!!!!!1=1)"), -5008);
        due("8 [ behind five !", Told.text(x, "v1(!!!!!1=[1])"), -5010);
        due("8 ( behind five !", Told.text(x, "v1(!!!!!(1=1))"), -5008);
        due("8 ! ends with its piece", Told.text(x, "v1(!!!!!1=1&!!!!!1=1|!!!!!1=1)"), 1);
        due("8 ! ends with its piece", Told.text(x, "v1(!!!!!1=1&[[[[[1]]]]]=[[[[[1]]]]])"), 1);
        due("8 ! open around ( )", Told.text(x, "v1(!(!(!1=1)))"), 1);
        due("8 ! open around ( )", Told.text(x, "v1(!(!(!(1=1))))"), -5008);
        due("8 where it can't stand", Told.text(x, "v1(!!!!!1!=1)"), -1009);
        due("8 first from the left", Told.text(x, "v123456(x"), -2006);
    }

    private static int paced(String text, int knee, int weight, int pounds, int tired, int miles, int slope) {
        SlowPace x = new SlowPace();
        x.walker(knee, weight);
        due("9 text " + text, Told.text(x, text) > 0, true);
        x.piece(miles, slope);
        return x.pace(0, pounds, tired, 0);
    }

    private static void pace() {
        due("9 letters", paced("vk+b+l+t+h+m+i+w+n(1=1)", 3, 20, 7, 2, 4, -1), 36);
        due("9 above the bound", paced("v61(1=1)", 0, 20, 0, 0, 1, 0), 60);
        due("9 at the bound", paced("v60(1=1)", 0, 20, 0, 0, 1, 0), 60);
        due("9 below the bound", paced("v0-5(1=1)", 0, 20, 0, 0, 1, 0), 0);
        due("9 the first that holds", paced("v1(1=2);g3(1=1);v2(l>6);v3(1=1);v4(1=1)", 0, 20, 6, 0, 1, 0), 3);
        due("9 none holds", paced("v1(1=2);g3(1=1)", 0, 20, 6, 0, 1, 0), 0);
        due("9 from the left on", paced("v20-3-2+1(1=1)", 0, 20, 0, 0, 1, 0), 16);
        due("9 from the left on", paced("v100/7*3%10(1=1)", 0, 20, 0, 0, 1, 0), 2);
        due("9 terms of factors", paced("v2+3*4(1=1)", 0, 20, 0, 0, 1, 0), 14);
        due("9 brackets", paced("v[2+3]*4(1=1)", 0, 20, 0, 0, 1, 0), 20);
        due("9 division towards 0", paced("v10+[h-2]/4(1=1)", 0, 20, 0, 0, 1, -9), 8);
        due("9 rest below 0", paced("v10+[h-2]%4(1=1)", 0, 20, 0, 0, 1, -9), 7);
        due("9 32 bits", paced("v[65536*65536+7](1=1)", 0, 20, 0, 0, 1, 0), 7);
        due("9 32 bits", paced("v5(32768*65535+32767>32768*65535+32768)", 0, 20, 0, 0, 1, 0), 5);
        due("9 E refused", paced("v5+1/0(1=1);v9(1=1)", 0, 20, 0, 0, 1, 0), 0);
        due("9 E refused in [ ]", paced("v5+[1%l](1=1)", 0, 20, 0, 0, 1, 0), 0);
        due("9 E refused, times 0", paced("v5+0*[1%l](1=1)", 0, 20, 0, 0, 1, 0), 0);
        due("9 C refused", paced("v5(1/l=0);v9(1=1)", 0, 20, 0, 0, 1, 0), 9);
        due("9 C refused through !", paced("v5(!1/l=0);v9(1=1)", 0, 20, 0, 0, 1, 0), 9);
        due("9 C refused through |", paced("v5(1/l=0|1=1);v9(1=1)", 0, 20, 0, 0, 1, 0), 9);
        due("9 C refused through ( )", paced("v5(!(!(0=1|l%l=1))|1=1);v9(1=1)", 0, 20, 0, 0, 1, 0), 9);
        due("9 not asked behind |", paced("v5(1=1|1/l=0);v9(1=1)", 0, 20, 0, 0, 1, 0), 5);
        due("9 not asked behind &", paced("v5(1=2&1/l=0|1=1);v9(1=1)", 0, 20, 0, 0, 1, 0), 5);
        due("9 asked behind &", paced("v5(1=1&1/l=0|1=1);v9(1=1)", 0, 20, 0, 0, 1, 0), 9);
        due("9 & binds", paced("v5(1=2|1=1&1=2);v9(1=1)", 0, 20, 0, 0, 1, 0), 9);
        due("9 & binds", paced("v5(1=1|1=1&1=2);v9(1=1)", 0, 20, 0, 0, 1, 0), 5);
        due("9 ( ) binds", paced("v5((1=1|1=1)&1=2);v9(1=1)", 0, 20, 0, 0, 1, 0), 9);
        due("9 ! of a piece", paced("v5(!1=2&1=1);v9(1=1)", 0, 20, 0, 0, 1, 0), 5);
        due("9 !!", paced("v5(!!1=2);v9(1=1)", 0, 20, 0, 0, 1, 0), 9);
        due("9 three &", paced("v5(1=1&1=1&2>1);v9(1=1)", 0, 20, 0, 0, 1, 0), 5);
        due("9 <", paced("v5(1<1);v6(1<2);v9(1=1)", 0, 20, 0, 0, 1, 0), 6);
        due("9 >", paced("v5(1>1);v6(2>1);v9(1=1)", 0, 20, 0, 0, 1, 0), 6);
    }

    private static void asked() {
        SlowPace x = two();
        due("9 1000 pounds", x.pace(0, 1000, 0, 0), 0);
        due("9 tired", x.pace(0, 40, 5, 0), 17);
        due("9 no walker", x.pace(2, 0, 0, 0), -1);
        due("9 no walker", x.pace(-1, 0, 0, 0), -1);
        due("9 pounds -1", x.pace(0, -1, 0, 0), -1);
        due("9 pounds 1001", x.pace(0, 1001, 0, 0), -1);
        due("9 tired -1", x.pace(0, 0, -1, 0), -1);
        due("9 tired 6", x.pace(0, 0, 6, 0), -1);
        due("9 no piece", x.pace(0, 0, 0, 2), -1);
        due("9 no piece", x.pace(0, 0, 0, -1), -1);
    }

    private static void carry() {
        SlowPace x = two();
        due("10", x.carry(0, 32, 0, 0), 44);
        due("10 uphill", x.carry(0, 32, 0, 1), 19);
        due("10 tired", x.carry(0, 32, 2, 0), 14);
        due("10 not even with nothing", x.carry(0, 41, 0, 0), -1);
        due("10 pace 0", x.carry(0, 0, 0, 0), -2);
        due("10 pace 61", x.carry(0, 61, 0, 0), -2);
        due("10 pace 60", x.carry(0, 60, 0, 0), -1);
        due("10 no walker", x.carry(2, 1, 0, 0), -2);
        due("10 tired 6", x.carry(0, 1, 6, 0), -2);
        due("10 no piece", x.carry(0, 1, 0, 2), -2);
        Told.text(x, "v20-l(l<9);v20(l>9);v30(l=9)");
        due("10 up to which", x.carry(0, 15, 0, 0), 5);
        due("10 not beyond the first that fails", x.carry(0, 13, 0, 0), 7);
        due("10 all of them", x.carry(0, 12, 0, 0), 400);
        due("10 at 400", x.carry(0, 1, 0, 0), 400);
        Told.text(x, "v20(l<400);v19(1=1)");
        due("10 399", x.carry(0, 20, 0, 0), 399);
        Told.text(x, "v20(l=1)");
        due("10 with nothing he can't", x.carry(0, 20, 0, 0), -1);
    }

    private static void parts() {
        SlowPace x = two();
        due("11 pace", x.parts(90, 0, 0, 0), 26);
        due("11 spare", x.parts(90, 0, 0, 1), 8);
        due("11 minutes", x.parts(90, 0, 0, 2), 93);
        due("11 just so much", x.parts(98, 0, 0, 0), 26);
        due("11 none spare", x.parts(98, 0, 0, 1), 0);
        due("11 one more", x.parts(99, 0, 0, 0), 25);
        due("11 tiredness, walker 0 lowest", x.parts(0, 0, 4, 0), 28);
        due("11 tiredness of walker 1", x.parts(0, 0, 24, 0), 18);
        due("11 of nobody", x.parts(0, 0, 36 * 4, 0), 30);
        due("11 none", x.parts(2400, 0, 0, 0), 0);
        due("11 none spare", x.parts(2400, 0, 0, 1), 0);
        due("11 no minutes", x.parts(2400, 0, 0, 2), -2);
        due("11 -1 pounds", x.parts(-1, 0, 0, 0), -1);
        due("11 2401 pounds", x.parts(2401, 0, 0, 0), -1);
        due("11 no piece", x.parts(0, 2, 0, 0), -1);
        due("11 tiredness -1", x.parts(0, 0, -1, 0), -1);
        due("11 tiredness 46655", x.parts(0, 0, 46655, 0), 15);
        due("11 tiredness 46656", x.parts(0, 0, 46656, 0), -1);
        due("11 what 3", x.parts(0, 0, 0, 3), -1);
        due("11 what -1", x.parts(0, 0, 0, -1), -1);
        x = alike(2, "v20(w=0|l=1)");
        x.piece(1, 0);
        due("11 one can't go with nothing", x.parts(10, 0, 0, 0), 0);
        x = new SlowPace();
        x.piece(1, 0);
        due("11 nobody", x.parts(0, 0, 0, 0), -1);
    }

    private static void whole() {
        SlowPace x = two();
        due("12 pace", x.whole(0, 0, -1), 26);
        due("12 minutes", x.whole(0, 0, 9), 93);
        due("12 load 0", x.whole(0, 0, 0), 0);
        due("12 load 1", x.whole(0, 0, 1), 1);
        due("12 load 2", x.whole(0, 0, 2), 0);
        due("12 no load", x.whole(0, 0, 3), -3);
        due("12 what -2", x.whole(0, 0, -2), -3);
        due("12 what 10", x.whole(0, 0, 10), -3);
        due("12 no piece", x.whole(2, 0, -1), -3);
        due("12 tiredness", x.whole(0, 46656, -1), -3);
        x = alike(2, "v40-l(1=1)");
        x.load(10, -1, 0);
        x.load(10, 0, 0);
        x.load(10, -1, 0);
        x.piece(1, 0);
        due("12 the owner's stays", x.whole(0, 0, -1), 20);
        due("12 least row", x.whole(0, 0, 0), 0);
        due("12 owner", x.whole(0, 0, 1), 0);
        due("12 least row", x.whole(0, 0, 2), 1);
        x = alike(2, "v40-l(1=1)");
        x.load(30, -1, 10);
        x.load(30, 1, 20);
        for (int i = 0; i < 5; i++) {
            x.piece(1, 0);
        }
        int[] paces = {10, 20, 30, 40, 40};
        for (int i = 0; i < 5; i++) {
            due("12 eaten at " + i, x.whole(i, 0, -1), paces[i]);
        }
        due("12 nothing left of it", x.whole(4, 0, 0), 0);
        due("12 its owner", x.whole(4, 0, 1), 1);
        Told.text(x, "v40-l(w=0|l>0)");
        due("12 all go", x.whole(0, 0, -1), 0);
        due("12 no minutes", x.whole(0, 0, 9), -2);
        due("12 no row", x.whole(0, 0, 0), -2);
        x = alike(1, "v40(1=1)");
        for (int i = 0; i < 4; i++) {
            x.load(100, -1, 0);
        }
        x.piece(1, 0);
        due("12 400 pounds", x.whole(0, 0, -1), 40);
        x.load(1, -1, 0);
        due("12 401 pounds", x.whole(0, 0, -1), 0);
    }

    private static void wont() {
        SlowPace x = alike(3, "v30-l/4+w*2(1=1)");
        x.load(60, 0, 10);
        x.load(40, -1, 0);
        due("13 no piece", x.wont(0, 0), -1000000);
        x.piece(3, 0);
        due("13", x.wont(0, 0), 25);
        due("13 tiredness", x.wont(0, -1), -1000000);
        Told.text(x, "v30-l/4*w(l<50)");
        due("13 with owners none", x.wont(0, 0), -1000000);
        Told.text(x, "v30-l/4(l<50)");
        due("13 both none", x.wont(0, 0), -1000000);
        x = new SlowPace();
        x.piece(1, 0);
        due("13 nobody", x.wont(0, 0), -1000000);
    }

    private static void who() {
        SlowPace x = alike(3, "v30-l/4+w*2(1=1)");
        x.load(60, 0, 10);
        x.piece(3, 0);
        due("14", x.who(0, 0, 0), 0);
        due("14 by how much", x.who(0, 0, 1), 1);
        x.lame(1, true);
        due("14 still", x.who(0, 0, 0), 0);
        x.lame(0, true);
        x.lame(2, true);
        x.lame(0, false);
        Told.text(x, "v20(1=1)");
        due("14 two are slow", x.who(0, 0, 0), -1);
        due("14 by nothing", x.who(0, 0, 1), 0);
        x.lame(2, false);
        due("14 one is slow", x.who(0, 0, 0), 1);
        due("14 what 2", x.who(0, 0, 2), -2);
        due("14 what -1", x.who(0, 0, -1), -2);
        due("14 no piece", x.who(1, 0, 0), -2);
        due("14 tiredness", x.who(0, 46656, 0), -2);
        x = alike(1, "v60(1=1)");
        x.piece(3, 0);
        due("14 up to 60", x.who(0, 0, 0), -1);
        due("14 up to 60", x.who(0, 0, 1), 0);
        Told.text(x, "v59(1=1)");
        due("14 59 grows", x.who(0, 0, 1), 1);
        Told.text(x, "v59(1=2)");
        due("14 0 grows", x.who(0, 0, 0), 0);
        x.walker(0, 50);
        due("14 0 of two doesn't", x.who(0, 0, 0), -1);
    }

    private static void pounds() {
        SlowPace x = two();
        due("15 load 0", x.pounds(0, 0, 0), 21);
        due("15 load 1", x.pounds(1, 0, 0), -2);
        due("15 load 2", x.pounds(2, 0, 0), 11);
        due("15 no load", x.pounds(3, 0, 0), -1);
        due("15 no load", x.pounds(-1, 0, 0), -1);
        due("15 no piece", x.pounds(0, 2, 0), -1);
        due("15 tiredness", x.pounds(0, 0, -1), -1);
        x = alike(1, "v20-l(1=1)");
        x.load(10, -1, 5);
        x.piece(1, 0);
        x.piece(1, 0);
        x.piece(1, 0);
        due("15 1 less", x.pounds(0, 1, 0), 1);
        due("15 nothing left to take", x.pounds(0, 2, 0), -2);
        Told.text(x, "v20(l<3)");
        due("15 from none on", x.pounds(0, 0, 0), 8);
        Told.text(x, "v20(l<1)");
        due("15 down to 0", x.pounds(0, 0, 0), 10);
    }

    private static void ahead() {
        SlowPace x = alike(3, "v30-l/4+w*2(1=1)");
        x.load(60, 0, 10);
        x.load(40, -1, 0);
        x.piece(3, 0);
        due("16 minutes", x.ahead(0, 0, 30, 0), 200);
        due("16 lower", x.ahead(0, 0, 30, 1), 0);
        due("16 higher", x.ahead(0, 0, 30, 2), 1);
        due("16 long cooking", x.ahead(0, 0, 150, 0), 210);
        due("16 600", x.ahead(0, 0, 600, 0), 657);
        due("16 the pair", x.ahead(0, 0, 600, 1), 1);
        due("16 the pair", x.ahead(0, 0, 600, 2), 2);
        due("16 cook -1", x.ahead(0, 0, -1, 0), -1);
        due("16 cook 601", x.ahead(0, 0, 601, 0), -1);
        due("16 what 3", x.ahead(0, 0, 0, 3), -1);
        due("16 what -1", x.ahead(0, 0, 0, -1), -1);
        due("16 no piece", x.ahead(1, 0, 0, 0), -1);
        due("16 tiredness", x.ahead(0, 46656, 0, 0), -1);
        Told.text(x, "v30(l<50)");
        due("16 none can", x.ahead(0, 0, 0, 0), -2);
        due("16 none can", x.ahead(0, 0, 0, 1), -2);
        Told.text(x, "v30(w=2|l<1)");
        due("16 like ones", x.ahead(0, 0, 0, 0), 60);
        due("16 who can carry all", x.ahead(0, 0, 0, 1), 0);
        x = alike(2, "v30(1=1)");
        x.piece(1, 0);
        due("16 fewer than three", x.ahead(0, 0, 0, 0), -1);
    }

    private static void stages() {
        SlowPace x = two();
        due("17 1", x.stages(0, 0, 1), 93);
        due("17 2", x.stages(0, 0, 2), 240);
        due("17 0", x.stages(0, 0, 0), -1);
        due("17 6", x.stages(0, 0, 6), -1);
        due("17 no piece", x.stages(2, 0, 1), -1);
        due("17 tiredness", x.stages(0, -1, 1), -1);
        due("18", x.goes(0, 0), 1);
        due("18 no piece", x.goes(2, 0), -1);
        due("18 tiredness", x.goes(0, 46656), -1);
        x = alike(1, "v30(l=0);v10(l<32)");
        x.load(91, -1, 1);
        x.piece(1, 0);
        x.piece(1, 3);
        due("17 it can't be", x.stages(0, 0, 1), -2);
        due("17 it can't be", x.stages(0, 0, 2), -2);
        due("17 rounded up: 31", x.stages(0, 0, 3), 3 * 60 + 2 * 20);
        due("17 rounded up: 23", x.stages(0, 0, 4), 4 * 60 + 3 * 20);
        due("17 5", x.stages(1, 0, 5), 5 * 60 + 4 * 20);
        due("18", x.goes(0, 0), 3);
        Told.text(x, "v30(l=0);v10(l<31)");
        due("17 31 is too much", x.stages(0, 0, 3), -2);
        due("17 30 of what was eaten", x.stages(1, 0, 3), 220);
        due("18", x.goes(0, 0), 4);
        Told.text(x, "v30(l=0)");
        due("18 none can", x.goes(0, 0), -2);
        x = new SlowPace();
        x.piece(1, 0);
        due("17 nobody", x.stages(0, 0, 1), -1);
        due("18 nobody", x.goes(0, 0), -1);
    }

    private static void carried() {
        SlowPace x = alike(3, "v30-l/4+w*2(1=1)");
        x.load(60, 0, 10);
        x.load(40, -1, 0);
        x.piece(3, 0);
        due("19 nobody is carried", x.carried(0, 0, 0), -1);
        due("19 minutes", x.carried(0, 0, 1), 120);
        x.lame(0, true);
        due("19 the lame one", x.carried(0, 0, 0), 0);
        due("19 minutes", x.carried(0, 0, 1), 150);
        due("19 what 2", x.carried(0, 0, 2), -3);
        due("19 what -1", x.carried(0, 0, -1), -3);
        due("19 no piece", x.carried(1, 0, 0), -3);
        due("19 tiredness", x.carried(0, 46656, 0), -3);
        x = alike(1, "v30(1=2)");
        x.piece(1, 0);
        due("19 one alone", x.carried(0, 0, 0), -2);
        due("19 one alone", x.carried(0, 0, 1), -2);
        x.walker(0, 250);
        Told.text(x, "v30(w=1)");
        due("19 who can't go", x.carried(0, 0, 0), 0);
        due("19 by him who can", x.carried(0, 0, 1), 20);
        Told.text(x, "v30(w=0)");
        due("19 250 pounds", x.carried(0, 0, 0), 1);
        Told.text(x, "v30(w=0&l<250)");
        due("19 are too many", x.carried(0, 0, 0), -2);
        Told.text(x, "v30-n(w=0)");
        due("19 there are still two", x.carried(0, 0, 1), 22);
    }

    private static void mule() {
        SlowPace x = alike(1, "v40-l(1=1)");
        x.load(30, -1, 5);
        x.piece(1, 0);
        x.piece(2, 0);
        x.piece(1, 0);
        due("20 where", x.mule(20, 1, 0, 0), 1);
        due("20 minutes", x.mule(20, 1, 0, 1), 60 + 1200 / 35 + 1 + 30);
        due("20 two pieces", x.mule(20, 2, 0, 0), 0);
        due("20 two pieces", x.mule(20, 2, 0, 1), 20 + 35 + 30);
        due("20 all pieces", x.mule(500, 3, 0, 1), 15 + 30 + 15);
        due("20 too many", x.mule(20, 4, 0, 0), -1);
        due("20 none", x.mule(20, 0, 0, 0), -1);
        due("20 most 0", x.mule(0, 1, 0, 0), -1);
        due("20 most 501", x.mule(501, 1, 0, 0), -1);
        due("20 what 2", x.mule(1, 1, 0, 2), -1);
        due("20 what -1", x.mule(1, 1, 0, -1), -1);
        due("20 tiredness", x.mule(1, 1, 46656, 0), -1);
        Told.text(x, "v40(l<25)");
        due("20 where it must", x.mule(6, 1, 0, 0), -2);
        due("20 where it must", x.mule(6, 2, 0, 0), 0);
        Told.text(x, "v40(1=1)");
        due("20 of like ones the first", x.mule(6, 1, 0, 0), 0);
        Told.text(x, "v40(l<9)");
        due("20 none can", x.mule(20, 1, 0, 1), -2);
        x = new SlowPace();
        x.piece(1, 0);
        due("20 nobody", x.mule(1, 1, 0, 0), -1);
    }

    private static void plan() {
        SlowPace x = two();
        due("21 not so many", x.plan(0), false);
        Told.bytes(x, 0, 1, 0);
        due("21 no such k", x.plan(6), false);
        due("21 no such k", x.plan(-1), false);
        due("21 the tape stays", x.count(4), 20);
        due("21", x.plan(0), true);
        due("21 empty then", x.count(4), 0);
        due("21 told", x.count(6), 1);
        Told.march(x, 0, 0);
        due("21 ran", x.ran(0), 160);
        due("21 no such walker", Told.plan(x, 0, 0, 2, 0), false);
        due("21 empty then", x.count(4), 0);
        due("21 the plan before stays", x.ran(0), 160);
        due("21 the march stays", x.count(7), 1);
        due("21 taken", Told.plan(x, 5, 1, 1, 1), true);
        due("21 the march falls", x.count(7), 0);
        due("21 both", x.count(6), 33);
        due("21 in its place", Told.plan(x, 0, 0, 0, 1), true);
        Told.march(x, 0, 0);
        due("21 ran", x.ran(0), 100 + 64);
        x.load(1, 1, 0);
        due("21 an owner's with another one", Told.plan(x, 0, 0, 0, 0, 0), false);
        due("21 empty then", x.count(4), 0);
        due("21 an owner's", Told.plan(x, 0, 0, 0, 0, 1), true);
    }

    private static void march() {
        SlowPace x = two();
        Told.plan(x, 2, 0, 1, 0);
        Told.bytes(x, 2, 14);
        due("22 not all", x.march(1), false);
        due("22 more than all", x.march(3), false);
        due("22 none", x.march(0), false);
        due("22 the tape stays", x.count(4), 20);
        due("22", x.march(2), true);
        due("22 empty then", x.count(4), 0);
        due("22 not so many", x.march(2), false);
        due("22 that before stays", x.count(7), 1);
        due("22 18 is three rests", Told.march(x, 2, 20), false);
        due("22 empty then", x.count(4), 0);
        due("22 255", Told.march(x, 255, 2), false);
        due("22 plan 3 is not told", Told.march(x, 2, 3), false);
        due("22 that before stays", x.ran(0), 93 + 60 + 58);
        due("22 17", Told.march(x, 2, 17), false);
        x = new SlowPace();
        due("22 no pieces", x.march(0), false);
        x.plan(0);
        x.piece(1, 0);
        Told.bytes(x, 0);
        due("22 no walkers", x.march(1), false);
        due("22 the tape stays", x.count(4), 20);
        x.walker(0, 50);
        due("22 one", x.march(1), true);
    }

    private static void ran() {
        SlowPace x = two();
        due("23 none is told", x.ran(0), -2);
        due("23 no such what", x.ran(4), -1);
        due("23 no such what", x.ran(-1), -1);
        Told.plan(x, 0, 0, 1, 0);
        Told.plan(x, 1, 0, 0, 1);
        Told.march(x, 0, 0);
        due("23 minutes", x.ran(0), 160);
        due("23 tiredness", x.ran(1), 2);
        due("23 nowhere spent", x.ran(2), -1);
        due("23 changes", x.ran(3), 0);
        Told.march(x, 0, 6);
        due("23 a rest", x.ran(0), 93 + 30 + 58);
        due("23 less tired", x.ran(1), 1);
        Told.march(x, 12, 1);
        due("23 rests at first and a change", x.ran(0), 60 + 93 + 10 + 64);
        due("23 one change", x.ran(3), 1);
        due("23 no such what still", x.ran(4), -1);
        Told.text(x, "v40-l/5-k*2(i=0);g5(w=0);r1(1=1)");
        due("23 the march stays", x.ran(0), 60 + 93);
        due("23 spent", x.ran(2), 1);
        due("23 its change does not count", x.ran(3), 0);
        due("23 tired to 5", x.ran(1), 5);
        Told.march(x, 0, 12);
        due("23 its rests do not count", x.ran(0), 93);
        due("23 nor do they help", x.ran(1), 5);
        Told.text(x, "v0(1=1)");
        due("23 spent at once", x.ran(2), 0);
        due("23 no minutes", x.ran(0), 0);
    }

    private static void tired() {
        SlowPace x = alike(2, "v30-t(1=1);g2-i(w=0);g0-1(w=1);r9(1=1)");
        for (int i = 0; i < 4; i++) {
            x.piece(1, 0);
        }
        x.plan(0);
        Told.march(x, 0, 0, 0, 0);
        due("23 2, 3, 3, 2: from 0 on", x.ran(1), 2);
        due("23 minutes", x.ran(0), 20 + 22 + 23 + 23);
        Told.text(x, "v30(1=1);g5(1=1)");
        due("23 up to 5", x.ran(1), 35);
        Told.text(x, "v30-t*5(1=1);g9(1=1)");
        due("23 beyond the bound the bound", x.ran(0), 20 + 120 + 120 + 120);
        Told.text(x, "v30(1=1);gq-18(w=1);gl+h+m(w=0)");
        due("23 q: its minutes, without rests", x.ran(1), 4 + 6 * 5);
        Told.march(x, 12, 12, 12, 12);
        due("23 q: its minutes, without rests", x.ran(1), 4 + 6 * 5);
        Told.text(x, "v30(1=1);gq-22(w=1)");
        due("23 q is 20", x.ran(1), 0);
        Told.text(x, "v30(1=1);g5(i<3);r[l+h+m+1]*[i-2](1=1)");
        Told.march(x, 0, 0, 0, 6);
        due("23 r: the piece that comes, no slope and miles", x.ran(1), 4 + 24);
        Told.march(x, 0, 0, 0, 12);
        due("23 two rests", x.ran(1), 3 + 18);
        Told.text(x, "v30(1=1);g5(i<3);rt-3(1=1)");
        due("23 the second rest by what the first left", x.ran(1), 3 + 18);
        Told.text(x, "v30(1=1);g3(i<3);r0-1(1=1)");
        due("23 r not below 0", x.ran(1), 35);
        Told.text(x, "v30(1=1);gt*2-i*3+1(1=1)");
        due("23 g by how tired on it", x.ran(1), 0);
    }

    private static void gap() {
        SlowPace x = two();
        due("24 none is told", x.gap(0), -1);
        Told.plan(x, 0, 0, 1, 0);
        Told.march(x, 0, 0);
        due("24 alike", x.gap(0), 0);
        due("24", x.gap(1), 9);
        due("24 no such", x.gap(2), -1);
        due("24 no such", x.gap(-1), -1);
        Told.march(x, 0, 6);
        due("24 after a rest", x.gap(1), 0);
        Told.text(x, "v40-l/5-k*2(w=0|i=0)");
        due("24 gone", x.gap(0), 0);
        due("24 somebody can't", x.gap(1), -2);
        Told.text(x, "v40-l/5-k*2(i=1)");
        due("24 spent ahead of it", x.gap(1), -2);
        due("24 spent on it", x.gap(0), -2);
    }

    private static void best() {
        SlowPace x = two();
        due("25 no plan", x.best(-1), -2);
        due("27 no plan", x.edge(), -2);
        Told.plan(x, 0, 0, 1, 0);
        due("25", x.best(-1), 160);
        Told.plan(x, 1, 0, 0, 1);
        due("25 a change costs too much", x.best(-1), 160);
        x.change(0);
        due("25 minutes", x.best(-1), 93 + 64);
        due("25 piece 0", x.best(0), 0);
        due("25 piece 1", x.best(1), 1);
        due("25 piece 2", x.best(2), -1);
        due("25 what -2", x.best(-2), -1);
        x.lame(0, true);
        due("25 lame", x.best(-1), 172 + 120);
        x = alike(2, "v30-t*5(1=1);g5(i=0);r3(1=1)");
        x.piece(1, 0);
        x.piece(15, 0);
        x.plan(3);
        due("25 two rests: 1 tired of 5", x.best(-1), 20 + 60 + 300);
        due("25 their row", x.best(1), 15);
        x.plan(1);
        due("25 of like ones the least row", x.best(0), 1);
        due("25 and the same plan", x.best(1), 13);
        x.change(0);
        due("25 changes for nothing", x.best(0), 1);
        x.walker(0, 50);
        x.walker(0, 50);
        due("25 four", x.best(-1), 380);
        x.walker(0, 50);
        due("25 five", x.best(-1), -2);
        due("25 five", x.best(0), -2);
        due("25 five, no such what", x.best(5), -1);
        due("26 five", x.often(0), -2);
        due("27 five", x.edge(), -2);
        x = new SlowPace();
        x.plan(0);
        due("25 no walkers", x.best(-1), -1);
        due("26 no walkers", x.often(0), -1);
        due("27 no walkers", x.edge(), -1);
        x.walker(0, 50);
        due("25 no pieces", x.best(-1), -1);
        due("26 no pieces", x.often(0), -1);
        due("27 no pieces", x.edge(), -1);
        x.piece(1, 0);
        due("25 none can", x.best(-1), -2);
        due("25 none can", x.best(0), -2);
        due("26 none can", x.often(3), -2);
    }

    private static void often() {
        SlowPace x = alike(2, "v40-l(w=0&i%2=0);v40-l(w=1&i%2=1);v10(l=0)");
        x.load(20, -1, 0);
        for (int i = 0; i < 5; i++) {
            x.piece(2, 0);
        }
        Told.plan(x, 0, 0);
        Told.plan(x, 1, 1);
        due("25 he who can, each time", x.best(-1), 640);
        due("25", x.best(0), 0);
        due("25", x.best(1), 1);
        due("25", x.best(4), 0);
        due("26 none", x.often(0), -2);
        due("26 three", x.often(3), -2);
        due("26 -1", x.often(-1), -1);
        due("26 4", x.often(4), -1);
        due("27 none without", x.edge(), -2);
        Told.text(x, "v40-l(w=0&i%2=0);v40-l(w=1&i%2=1);v10(l>0);v40(1=1)");
        due("26 none", x.often(0), 3 * 60 + 2 * 120);
        due("26 one does not pay", x.often(1), 420);
        due("26 two", x.often(2), 4 * 60 + 120 + 20);
        due("26 three", x.often(3), 380);
        due("25 four", x.best(-1), 300 + 40);
        due("27 from there on none gains", x.edge(), 30);
        x.change(30);
        due("25 at the edge", x.best(-1), 420);
        due("25 at the edge", x.best(1), 0);
        due("27 whatever a change costs", x.edge(), 30);
        x.change(29);
        due("26 three", x.often(3), 418);
        due("26 two", x.often(2), 418);
        due("26 one", x.often(1), 420);
        due("26 none", x.often(0), 420);
        x = alike(2, "v10(w=0&i=0);v10(w=1&i=1);v1(l>0);v10(1=1)");
        x.load(1, -1, 0);
        x.piece(1, 0);
        x.piece(1, 0);
        Told.plan(x, 0, 0);
        due("27 one plan", x.edge(), 0);
        Told.plan(x, 1, 1);
        due("27 120 do not do", x.edge(), -2);
        Told.text(x, "v10(w=0&i=0);v10(w=1&i=1);v3(l>0);v10(1=1)");
        due("27 140 are saved", x.edge(), -2);
        Told.text(x, "v12(w=0&i=0);v12(w=1&i=1);v4(l>0);v12(1=1)");
        due("27 100 are saved", x.edge(), 100);
    }

    private static void bands() {
        SlowPace x = two();
        due("28 the minute", x.bands(1, 2, 0), 50);
        due("28 the first", x.bands(1, 2, 1), 33);
        due("28 the other way", x.bands(2, 1, 0), 50);
        due("28 the other way", x.bands(2, 1, 1), 25);
        due("28 one in both", x.bands(1, 3, 0), -1);
        due("28 nobody", x.bands(0, 1, 0), -1);
        due("28 nobody", x.bands(1, 0, 0), -1);
        due("28 no such walker", x.bands(1, 4, 0), -1);
        due("28 below 0", x.bands(-1, 1, 0), -1);
        due("28 what 2", x.bands(1, 2, 2), -1);
        due("28 what -1", x.bands(1, 2, -1), -1);
        Told.text(x, "v40-t(h<5)");
        due("28 one can't go there", x.bands(1, 2, 0), -2);
        Told.text(x, "v40-t(h<5&h>0-5|w=1)");
        due("28 the other one not back", x.bands(2, 1, 0), -2);
        Told.text(x, "v7(w=0);v60(1=1)");
        due("28 ends together", x.bands(1, 2, 0), 54);
        due("28 rounded down", x.bands(1, 2, 1), 6);
        x = alike(3, "v60-w*10(1=1)");
        x.piece(10, 0);
        due("28 the least of a band", x.bands(1, 6, 0), 60);
        due("28 the least of a band", x.bands(1, 6, 1), 60);
        due("28 the least of a band", x.bands(5, 2, 1), 45);
        x = new SlowPace();
        x.walker(0, 50);
        x.walker(0, 50);
        due("28 no pieces", x.bands(1, 2, 0), -1);
    }

    private static void kettle() {
        SlowPace x = two();
        due("29 none is told", x.kettle(0), -1);
        Told.plan(x, 0, 0, 1, 0);
        Told.plan(x, 1, 1, 0, 0);
        Told.march(x, 0, 1);
        due("29 4 miles against 2", x.kettle(0), 0);
        due("29 4 miles against 2", x.kettle(1), 1);
        due("29 no such", x.kettle(3), -1);
        due("29 no such", x.kettle(-1), -1);
        Told.march(x, 1, 0);
        due("29 the other way", x.kettle(0), 1);
        Told.text(x, "v9(i=1)");
        due("29 spent at once", x.kettle(0), -2);
        Told.text(x, "v9(i=0)");
        due("29 ahead of where it is spent", x.kettle(1), 0);
        x = alike(2, "v9(1=1)");
        x.load(1, -1, 1);
        x.piece(2, 0);
        x.piece(2, 0);
        Told.plan(x, 0, 0);
        Told.plan(x, 1, 1);
        Told.march(x, 1, 0);
        due("29 of like ones the lowest", x.kettle(0), 0);
    }

    private static void check() {
        SlowPace x = two();
        due("30 none is told", x.check(0), -2);
        Told.plan(x, 0, 0, 1, 0);
        Told.plan(x, 1, 0, 0, 1);
        Told.march(x, 0, 7);
        int second = 10 + 30 + 64;
        due("30 right", Told.check(x, 93, second), -1);
        due("30 empty then", x.count(4), 0);
        due("30 first not so", Told.check(x, 92, second), 0);
        due("30 second not so", Told.check(x, 93, second + 1), 1);
        due("30 one lacking", Told.check(x, 93), 1);
        due("30 both lacking", x.check(0), 0);
        due("30 not so and lacking", Told.check(x, 1), 0);
        due("30 one too many", Told.check(x, 93, second, 0), 2);
        due("30 high bytes", Told.check(x, 93 + (1 << 24), second), 0);
        Told.bytes(x, 0);
        due("30 not so many", x.check(6), -2);
        due("30 below 0", x.check(-1), -2);
        due("30 the tape stays", x.count(4), 20);
        due("30 five", x.check(5), 0);
        due("30 empty then", x.count(4), 0);
        Told.text(x, "v9(i=0)");
        due("30 ahead of where it is spent", Told.check(x, 267), -1);
        Told.text(x, "v9(i=1)");
        due("30 nothing is right", x.check(0), -1);
        x.piece(1, 0);
        Told.bytes(x, 0);
        due("30 no march", x.check(1), -2);
        due("30 the tape stays", x.count(4), 20);
    }

    private static void count() {
        SlowPace x = two();
        x.load(10, -1, 7);
        Told.bytes(x, 1, 2, 3);
        int[] counts = {2, 4, 2, 3, 20, 10, 0, 0, -1, -1, 100, 93, -1};
        for (int i = 0; i < counts.length; i++) {
            due("31 count(" + i + ")", x.count(i), counts[i]);
        }
        due("31 count(-1)", x.count(-1), -1);
        due("31 count(19)", x.count(19), -1);
        due("31 count(20)", x.count(20), -1);
        x.piece(1, 0);
        due("31 not below 0", x.count(12), 90);
        for (int i = 3; i < 10; i++) {
            x.piece(1, 0);
        }
        due("31 count(19)", x.count(19), 90);
        due("31 lowest", x.count(Integer.MIN_VALUE), -1);
        due("31 highest", x.count(Integer.MAX_VALUE), -1);
    }

    /** What was reckoned before a call must not be answered behind it. */
    private static void kept() {
        SlowPace x = two();
        due("10 tired 1", x.carry(0, 30, 1, 0), 39);
        due("10 walker 1", x.carry(1, 30, 0, 0), 4);
        due("10 piece 1", x.carry(0, 30, 0, 1), 29);
        due("10 tired 5", x.carry(0, 20, 5, 0), 29);
        Told.text(x, "v40-l/5-k-n(1=1)");
        due("10 another text", x.carry(1, 30, 0, 0), 19);
        x.walker(0, 50);
        due("10 one walker more", x.carry(1, 30, 0, 0), 14);
        x.lame(1, true);
        due("10 lame", x.carry(1, 15, 0, 0), 14);
        x = alike(1, "v30-l(1=1)");
        x.piece(1, 0);
        x.plan(0);
        due("25 before", x.best(-1), 20);
        x.load(20, 0, 0);
        due("25 the plan fell", x.best(-1), -2);
        Told.plan(x, 0, 0);
        due("25 a load", x.best(-1), 60);
        x.piece(1, 0);
        due("25 a piece more", x.best(-1), 120);
        x.lame(0, true);
        due("25 lame", x.best(-1), 240);
        Told.text(x, "v30(1=1)");
        due("25 a text", x.best(-1), 80);
        due("26 of one", x.often(0), 80);
        due("27 of one", x.edge(), 0);
        x.walker(0, 50);
        due("25 the plan stays", x.best(-1), 80);
    }

    /** Where one number more or less would be another answer. */
    private static void closest() {
        SlowPace x = alike(2, "v30-l(1=1)");
        x.load(10, -1, 0);
        x.load(9, -1, 0);
        x.load(1, -1, 0);
        x.piece(2, 0);
        due("14 by nobody", x.who(0, 0, 0), -1);
        due("20 one pound, one piece", x.mule(1, 1, 0, 1), 60);
        due("21 of the first load no such walker", Told.plan(x, 0, 2, 0, 0), false);
        due("21 its number can't be", Told.plan(x, 0, 255, 0, 0), false);
        Told.text(x, "v11(1=1)");
        due("12 1200 through 11, rounded up", x.whole(0, 0, 9), 110);
        Told.text(x, "v5(!1=1);v6(!1<2);v7(!2>1);v8(!1=2);v9(1=1)");
        due("9 ! of what holds", x.pace(0, 0, 0, 0), 8);
        Told.text(x, "v4-l(1=1)");
        due("10 pace 1 up to 3", x.carry(0, 1, 0, 0), 3);
        Told.text(x, "v2-l*2(1=1)");
        due("10 below the bound", x.carry(0, 1, 0, 0), 0);
        due("28 with nothing", x.bands(1, 2, 0), 300);
        Told.text(x, "v1(1=1)");
        due("28 the least pace of all", x.bands(1, 2, 0), 600);
        Told.text(x, "v1-h(1=1)");
        x.piece(1, 1);
        due("28 the first below 0", x.bands(1, 2, 0), -2);
        x = alike(2, "v60-w*10(1=1)");
        x.piece(1, 0);
        x.piece(1, 0);
        due("28 the first minute of a piece", x.bands(1, 2, 0), 11);
        due("28 the first minute of a piece", x.bands(1, 2, 1), 11);
        due("28 no such walker", x.bands(4, 1, 0), -1);
        Told.text(x, "v1+h(1=1)");
        x.piece(1, 1);
        due("28 the second below 0", x.bands(1, 2, 0), -2);
        packed();
        six();
        searched();
    }

    private static void packed() {
        SlowPace x = alike(2, "v30(w=1|l<50)");
        x.load(60, 0, 0);
        x.piece(1, 0);
        due("13 only with owners none", x.wont(0, 0), -1000000);
        Told.text(x, "v60(l<50);v59(1=1)");
        due("15 up to 60", x.pounds(0, 0, 0), 11);
        Told.text(x, "v60(1=1)");
        due("15 not beyond 60", x.pounds(0, 0, 0), -2);
        due("19 of like ones nobody", x.carried(0, 0, 0), -1);
        x.walker(0, 50);
        Told.text(x, "v30(l<1);v10(1=1)");
        due("16 of like ones the least row", x.ahead(0, 0, 0, 1), 0);
        due("16 of like ones the least row", x.ahead(0, 0, 0, 2), 1);
        x = alike(1, "v30(l<11)");
        x.load(50, -1, 0);
        x.piece(1, 0);
        due("18 five", x.goes(0, 0), 5);
        x.load(5, -1, 0);
        due("18 no sixth", x.goes(0, 0), -2);
        x = alike(6, "v50-l(1=1)");
        for (int i = 0; i < 9; i++) {
            x.load(10 + i, -1, 0);
        }
        x.piece(1, 0);
        due("12 nine loads, six walkers", x.whole(0, 0, -1), 25);
        int[] row = {0, 1, 2, 2, 1, 0, 3, 4, 5};
        for (int i = 0; i < 9; i++) {
            due("12 load " + i, x.whole(0, 0, i), row[i]);
        }
    }

    private static void six() {
        SlowPace x = alike(6, "v30-t(1=1);gw(w>3)");
        x.piece(1, 0);
        x.plan(0);
        Told.march(x, 0);
        due("23 walkers 4 and 5", x.ran(1), 4 * 1296 + 5 * 7776);
        due("11 walker 4", x.parts(0, 0, 4 * 1296, 0), 26);
        due("11 walker 5", x.parts(0, 0, 5 * 7776, 0), 25);
        x = alike(1, "v30(l<5)");
        x.load(5, -1, 0);
        x.piece(1, 0);
        due("14 from none to 1, with a load", x.who(0, 0, 0), 0);
        due("14 from none to 1, with a load", x.who(0, 0, 1), 1);
    }

    private static void searched() {
        SlowPace x = alike(2, "v40-t*5(1=1);g2(w=1&i=0);g4(w=0&i=1);r2(w=1);r4(1=1)");
        for (int i = 0; i < 10; i++) {
            x.piece(6, 0);
        }
        x.plan(4);
        due("25 ten pieces: 90, 120 with what is left of one", x.best(-1), 90 + 120 + 8 * 90 + 30);
        due("25 first", x.best(0), 4);
        due("25 of like ones no rest ahead of piece 1", x.best(1), 4);
        due("25 a rest ahead of piece 2", x.best(2), 10);
        due("25 last", x.best(9), 4);
        x = alike(2, "v40(w=0&l>0&i=0);v40(w=1&l>0&i=1);v40(w=0&l>0&i>1);v10(l>0);v40(1=1)");
        x.load(20, -1, 0);
        for (int i = 0; i < 10; i++) {
            x.piece(2, 0);
        }
        Told.plan(x, 5, 0);
        Told.plan(x, 4, 1);
        due("26 two early changes", x.often(2), 320);
        due("26 one", x.often(1), 390);
        due("26 none", x.often(0), 390);
        due("27", x.edge(), 45);
        x.walker(0, 50);
        x.walker(0, 50);
        due("26 four walkers", x.often(3), 320);
        due("27 four walkers", x.edge(), 45);
        x = alike(2, "v12(w=0&i=0);v12(w=1&i=1);v4-m/9(l>0);v12(1=1)");
        x.load(1, -1, 0);
        x.piece(1, 0);
        x.piece(1, 0);
        Told.plan(x, 0, 0);
        Told.plan(x, 1, 1);
        Told.text(x, "v10(w=0&i=0);v10(w=1&i=1);v3(l>0);v10(1=1)");
        due("27 140", x.edge(), -2);
        Told.text(x, "v30(w=0&i=0);v30(w=1&i=1);v5(l>0);v30(1=1)");
        due("27 100", x.edge(), 100);
        Told.text(x, "v20(w=0&i=0);v20(w=1&i=1);v4(l>0);v20(1=1)");
        due("27 120 do", x.edge(), 120);
        Told.text(x, "v55(w=0&i=0);v55(w=1&i=1);v50(l>0);v55(1=1)");
        due("27 1", x.edge(), 1);
    }

    /** Of several answers the one told last in its line goes first. */
    private static void order() {
        SlowPace x = new SlowPace();
        due("no such what ahead of no march", x.ran(9), -1);
        due("no such piece ahead of no march", x.gap(0), -1);
        due("nobody ahead of none can", x.goes(0, 0), -1);
        x.piece(1, 0);
        x.walker(0, 50);
        due("fewer than three ahead of none can", x.ahead(0, 0, 0, 0), -1);
        due("no such what ahead of none can", x.carried(0, 0, 5), -3);
        due("no such what ahead of no plan", x.best(1), -1);
        due("no such changes ahead of no plan", x.often(4), -1);
        due("fewer pieces ahead of none can", x.mule(1, 2, 0, 0), -1);
        due("one in both ahead of one can't", x.bands(1, 1, 0), -1);
    }
}
