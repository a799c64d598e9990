/** The edges of the text (promise 8, 'Terms'): its length, its clauses, its faults, what it yields. */
public final class TextEdgeTest {
    private static final Told TOLD = new Told();
    private static final String BEGINS = "0123456789wkblthmin[";
    private static final String OPERATORS = "+-*/%";

    public static void main(String[] args) {
        lengths();
        tapeOfText();
        oneBefore();
        whatCanStand();
        whatCanStandBehind();
        whatCanStandInBrackets();
        minutesLetter();
        digits();
        clauses();
        openSigns();
        openNots();
        firstFault();
        bounds();
        boundsOfTired();
        lettersOfPace();
        lettersOfTired();
        lettersOfRest();
        order();
        machine();
        refusedSum();
        refusedCondition();
        askedAsMatters();
        longTexts();
        System.exit(TOLD.end());
    }

    private static void due(String what, long got, long want) {
        TOLD.due(what, got, want);
    }

    private static void due(String what, boolean got, boolean want) {
        TOLD.due(what, got, want);
    }

    private static int read(String text) {
        return Told.text(new SlowPace(), text);
    }

    private static void faulty(String text, int number, int place) {
        due("8 fault of " + text, read(text), -1000 * number - place);
    }

    private static void fine(String text, int clauses) {
        due("8 clauses of " + text, read(text), clauses);
    }

    private static void lengths() {
        String nothing = "+0".repeat(96);
        SlowPace x = Scene.level(1, 1, "v17(1=1)");
        int[] none = {0, -1, 201, 202, 220, 221, Integer.MIN_VALUE, Integer.MAX_VALUE};
        for (int i = 0; i < 11; i++) {
            x.feed(0x76313828, 0x313d3129, 0, 0, 0);
        }
        for (int n : none) {
            due("8 text(" + n + ")", x.text(n), -1);
            due("8 the tape stays", x.count(4), 220);
            due("8 the text before stays", x.pace(0, 0, 0, 0), 17);
        }
        due("8 its first eight", x.text(8), 1);
        due("8 are the text", x.pace(0, 0, 0, 0), 18);
        due("8 199 bytes", read("v1" + nothing + "(1=1)"), 1);
        due("8 200 bytes", read("v10" + nothing + "(1=1)"), 1);
        due("8 201 bytes are refused", read("v100" + nothing + "(1=1)"), -1);
        due("8 one byte", read("v"), -1001);
    }

    private static void tapeOfText() {
        SlowPace x = new SlowPace();
        due("8 nothing on the tape", x.text(1), -1);
        x.feed(0x76313828, 0x313d3129, 0x3b763128, 0x313d3229, 0x3b76312b);
        due("8 one more than it has", x.text(21), -1);
        due("8 the tape stays", x.count(4), 20);
        due("8 all that it has", x.text(20), -1020);
        due("8 empty behind a fault", x.count(4), 0);
        x.feed(0x76313828, 0x313d3129, 0x3b763128, 0x313d3229, 0x3b76312b);
        due("8 a part of it", x.text(16), 2);
        due("8 empty behind a text", x.count(4), 0);
        due("8 gone is gone", x.text(1), -1);
    }

    private static void oneBefore() {
        SlowPace x = Scene.level(1, 1, "v17(1=1);g1(1=1);r1(1=1)");
        x.plan(0);
        Told.march(x, 0);
        String[] faults = {"w", "v123456", "v0(0=1);".repeat(14) + "v", "v[[[[[[["};
        for (String fault : faults) {
            due("8 a fault", Told.text(x, fault) <= -1000, true);
            due("8 the clauses before stay", x.count(3), 3);
            due("8 the paces before stay", x.pace(0, 0, 0, 0), 17);
            due("8 what tires stays", x.ran(1), 1);
        }
        due("8 in its place", Told.text(x, "v20(1=1)"), 1);
        due("8 the clauses", x.count(3), 1);
        due("8 the paces", x.pace(0, 0, 0, 0), 20);
        due("8 nothing tires", x.ran(1), 0);
        due("8 the march stays", x.ran(0), 30);
        due("8 only one that tires", Told.text(x, "g1(1=1)"), 1);
        due("8 nobody can go", x.pace(0, 0, 0, 0), 0);
        due("8 the march stays", x.ran(2), 0);
    }

    /** Behind a beginning each byte that can't stand there is fault 1 at it, each other one is not. */
    private static void stands(String beginning, String can) {
        SlowPace x = new SlowPace();
        int at = beginning.length();
        for (int c = 0; c < 256; c++) {
            if (c % 64 == 0) {
                x = new SlowPace();
            }
            int answer = Told.text(x, beginning + (char) c);
            due("8 " + c + " behind " + beginning, answer == -1000 - at, can.indexOf(c) < 0);
        }
        due("8 the end behind " + beginning, read(beginning), at == 0 ? -1 : -1000 - at);
    }

    private static void whatCanStand() {
        stands("", "vgr");
        stands("v", BEGINS);
        stands("r", BEGINS);
        stands("g", BEGINS + "q");
        stands("v1", "0123456789(" + OPERATORS);
        stands("v12345", "0123456789(" + OPERATORS);
        stands("vw", "(" + OPERATORS);
        stands("gq", "(" + OPERATORS);
        for (char c : OPERATORS.toCharArray()) {
            stands("v1" + c, BEGINS);
            stands("gq" + c, BEGINS + "q");
        }
        stands("v[", BEGINS);
        stands("v[w", "]" + OPERATORS);
        stands("v[1", "0123456789]" + OPERATORS);
        stands("v[1]", "(" + OPERATORS);
        stands("v[[1]", "]" + OPERATORS);
    }

    private static void whatCanStandBehind() {
        String pieces = BEGINS + "!(";
        stands("v1(", pieces);
        stands("g1(", pieces + "q");
        stands("v1(!", pieces);
        stands("v1(!!", pieces);
        stands("v1((", pieces);
        stands("v1(w", "<>=" + OPERATORS);
        stands("v1(1", "0123456789<>=" + OPERATORS);
        stands("v1(w=", BEGINS);
        stands("v1(w<", BEGINS);
        stands("v1(w>", BEGINS);
        stands("g1(w>", BEGINS + "q");
        stands("v1(w=k", "&|)" + OPERATORS);
        stands("v1(w=1", "0123456789&|)" + OPERATORS);
        stands("v1(!w=k", "&|)" + OPERATORS);
        stands("v1(w=k&", pieces);
        stands("v1(w=k|", pieces);
        stands("v1(w=k&k=w", "&|)" + OPERATORS);
        due("8 the whole text may end there", read("v1(w=k)"), 1);
        SlowPace x = new SlowPace();
        for (int c = 0; c < 256; c++) {
            due("8 behind a clause " + c, Told.text(x, "v1(1=1)" + (char) c), c == ';' ? -1008 : -1007);
            due("8 behind a ; " + c, Told.text(x, "v1(1=1);" + (char) c), "vgr".indexOf(c) < 0 ? -1008 : -1009);
            x = c % 64 == 63 ? new SlowPace() : x;
        }
    }

    private static void whatCanStandInBrackets() {
        stands("v1((w=k", "&|)" + OPERATORS);
        stands("v1((w=k)", "&|)");
        stands("v1(!(w=k)", "&|)");
        stands("v1((w=k)&", BEGINS + "!(");
        stands("v1([w", "]" + OPERATORS);
        stands("v1([w]", "<>=" + OPERATORS);
        stands("v1(w=[k", "]" + OPERATORS);
        stands("v1(w=[k]", "&|)" + OPERATORS);
        faulty("v1([w=k]=1)", 1, 5);
        faulty("v1((w)=1)", 1, 5);
        faulty("v1(w=(k))", 1, 5);
        faulty("v(1)(1=1)", 1, 1);
        faulty("v1(1=!1)", 1, 5);
        faulty("v!1(1=1)", 1, 1);
        faulty("v1[2](1=1)", 1, 2);
        faulty("v[1]2(1=1)", 1, 4);
        faulty("v[](1=1)", 1, 2);
        faulty("v1()", 1, 3);
    }

    private static void minutesLetter() {
        fine("gq(q>q)", 1);
        fine("v1(1=1);g[q](1=[q])", 2);
        faulty("vq(1=1)", 1, 1);
        faulty("rq(1=1)", 1, 1);
        faulty("v1(1=q)", 1, 5);
        faulty("r1(q=1)", 1, 3);
        faulty("gq(q=1);vq(1=1)", 1, 9);
        faulty("gq(q=1);r1(1=1|q=1)", 1, 15);
    }

    private static void digits() {
        fine("v99999(99999=99999)", 1);
        fine("v00000(1=00001)", 1);
        faulty("v999990(1=1)", 2, 6);
        faulty("v000000(1=1)", 2, 6);
        faulty("v1(123456=1)", 2, 8);
        faulty("v1(1=123456)", 2, 10);
        faulty("v1(1=123456", 2, 10);
        faulty("v1+2*123456(1=1)", 2, 10);
        faulty("v[123456](1=1)", 2, 7);
        faulty("v1234567(1=1)", 2, 6);
        faulty("v12345", 1, 6);
        faulty("v12345x(1=1)", 1, 6);
        fine("v12345+67890(1=1)", 1);
        SlowPace x = Scene.level(1, 1, "v99999-99960(1=1)");
        due("8 five digits are told whole", x.pace(0, 0, 0, 0), 39);
        Told.text(x, "v00012(1=1)");
        due("8 0 ahead of digits", x.pace(0, 0, 0, 0), 12);
    }

    private static void clauses() {
        String thirteen = "v0(0=1);".repeat(13);
        fine(thirteen + "v1(1=1)", 14);
        fine("g1(1=1)", 1);
        fine("r1(1=1)", 1);
        String fourteen = thirteen + "v0(0=1)";
        faulty(fourteen + ";v1(1=1)", 4, 112);
        faulty(fourteen + ";g", 4, 112);
        faulty(fourteen + ";r!", 4, 112);
        faulty(fourteen + ";", 1, 112);
        faulty(fourteen + ";x", 1, 112);
        faulty(fourteen + ";;", 1, 112);
        faulty(fourteen + ":v1(1=1)", 1, 111);
        faulty(thirteen + "v123456(1=1);v1(1=1)", 2, 110);
        SlowPace x = Scene.level(1, 1, "v0(0=1)");
        due("8 the 14th", Told.text(x, thirteen + "v9(1=1)"), 14);
        due("8 is asked", x.pace(0, 0, 0, 0), 9);
    }

    private static void openSigns() {
        fine("v[[[[[[w]]]]]](1=1)", 1);
        faulty("v[[[[[[[w]]]]]]](1=1)", 5, 7);
        faulty("v1+[[[[[[[w", 5, 9);
        fine("v[[[[[[w]]]]]]+[[[[[[w]]]]]](1=1)", 1);
        fine("v1([[[[[w]]]]]=1)", 1);
        faulty("v1([[[[[[w]]]]]]=1)", 5, 8);
        fine("v1(1=[[[[[w]]]]])", 1);
        faulty("v1(1=[[[[[[w]]]]]])", 5, 10);
        fine("v1((((((w=1))))))", 1);
        faulty("v1(((((((w=1)))))))", 5, 8);
        fine("v1((((((w=1)))))&(((((w=1)))))|(((((w=1))))))", 1);
        faulty("v1((((((w=1)))))&((((((w=1)))))))", 5, 22);
        fine("v1(((([[w]]=1))))", 1);
        faulty("v1(((([[[w]]]=1))))", 5, 8);
        faulty("v1((((((w=[1]))))))", 5, 10);
        fine("v1(((((w=[1])))))", 1);
        faulty("v1((((((w=(1))))))", 1, 10);
        faulty("v1((((((w=!1))))))", 1, 10);
        faulty("v[[[[[[(1]]]]]](1=1)", 1, 7);
        faulty("v[[[[[[!1]]]]]](1=1)", 1, 7);
    }

    private static void openNots() {
        fine("v1(!!!!!w=1)", 1);
        faulty("v1(!!!!!!w=1)", 5, 8);
        fine("v1(!!!!(w=1))", 1);
        faulty("v1(!!!!!(w=1))", 5, 8);
        fine("v1(!!!![w]=1)", 1);
        faulty("v1(!!!!![w]=1)", 5, 8);
        faulty("v1(!!!!!w=[1])", 5, 10);
        fine("v1(!!!!w=[1])", 1);
        fine("v1(!!!!!w=1&!!!!!w=1)", 1);
        fine("v1(!!!!!w=1|[[[[[w]]]]]=1)", 1);
        fine("v1(!(!(!w=1)&!(!w=1)))", 1);
        faulty("v1(!(!(!(w=1))))", 5, 8);
        fine("v1(!(!!!w=1))", 1);
        fine("v1(!(!(w=1)&(w=1&!w=1)))", 1);
        fine("v1(!(!(w=1)&(w=1&!(w=1))))", 1);
        faulty("v1(!(!(w=1)&(w=1&!(!w=1))))", 5, 19);
        fine("v1(!(w=1)&((((!w=1)))))", 1);
        fine("v1((!w=1)&((((!w=1)))))", 1);
        faulty("v1((!w=1)&(((((!w=1))))))", 5, 15);
        fine("v1(1=1);v2(!!!!!w=1)", 2);
    }

    private static void firstFault() {
        faulty("v1234567890(", 2, 6);
        faulty("v1 23456(1=1)", 1, 2);
        faulty("v[[[[[[[123456](1=1)", 5, 7);
        faulty("v123456[[[[[[[", 2, 6);
        faulty(" v1(1=1)", 1, 0);
        faulty("v1(1=1) ", 1, 7);
        faulty("v1( 1=1)", 1, 3);
        faulty("v1(1=1); v1(1=1)", 1, 8);
        faulty("v1(1=1)\n", 1, 7);
        faulty("v0(0=1);".repeat(13) + "v1([[[[[[1]]]]]]=1);v1(1=1)", 5, 112);
        faulty("v1(1=1", 1, 6);
        faulty("v1((1=1)", 1, 8);
        faulty("v[1(1=1)", 1, 3);
    }

    /** One walker, knee 3, 60 pounds, two pieces: 5 miles 4 up, 7 miles 6 down. */
    private static SlowPace told(String text) {
        SlowPace x = new SlowPace();
        x.walker(3, 60);
        x.piece(5, 4);
        x.piece(7, -6);
        due("text " + text, Told.text(x, text) > 0, true);
        return x;
    }

    private static void paces(String text, int want) {
        due("9 " + text, told(text).pace(0, 2, 1, 0), want);
    }

    private static void bounds() {
        paces("v59(1=1)", 59);
        paces("v60(1=1)", 60);
        paces("v61(1=1)", 60);
        paces("v99999(1=1)", 60);
        paces("v1(1=1)", 1);
        paces("v0(1=1)", 0);
        paces("v0-1(1=1)", 0);
        paces("v0-99999(1=1)", 0);
        paces("v9(1=2)", 0);
        paces("g9(1=1);r9(1=1)", 0);
        paces("v0(1=1);v9(1=1)", 0);
        paces("v70(1=1);v9(1=1)", 60);
    }

    /** How tired the walkers get on the first piece of a march when they go all on by a text. */
    private static int tiredBehind(int pieces, String text) {
        SlowPace x = Scene.level(1, pieces, text);
        x.plan(0);
        int[] row = new int[pieces];
        Told.march(x, row);
        return x.ran(1);
    }

    private static int tiredRested(int rests, String text) {
        SlowPace x = Scene.level(1, 2, text);
        x.plan(0);
        Told.march(x, 0, 6 * rests);
        return x.ran(1);
    }

    private static void boundsOfTired() {
        due("23 g none: 0", tiredBehind(1, "v9(1=1)"), 0);
        due("23 g of one that doesn't hold", tiredBehind(1, "v9(1=1);g3(1=2)"), 0);
        due("23 g 4", tiredBehind(1, "v9(1=1);g4(1=1)"), 4);
        due("23 g 5", tiredBehind(1, "v9(1=1);g5(1=1)"), 5);
        due("23 g 6", tiredBehind(1, "v9(1=1);g6(1=1)"), 5);
        due("23 g -5 of 5", tiredBehind(2, "v9(1=1);g5(i=0);g0-5(i=1)"), 0);
        due("23 g -4 of 5", tiredBehind(2, "v9(1=1);g5(i=0);g0-4(i=1)"), 1);
        due("23 g -6 of 5", tiredBehind(2, "v9(1=1);g5(i=0);g0-6(i=1)"), 0);
        due("23 g -1 of 0", tiredBehind(1, "v9(1=1);g0-1(1=1)"), 0);
        due("23 g -3 of 2, then 1", tiredBehind(3, "v9(1=1);g2(i=0);g0-3(i=1);g1(i=2)"), 1);
        due("23 g 3 and 3, then -1", tiredBehind(3, "v9(1=1);g3(i<2);g0-1(i=2)"), 4);
        due("23 g 2 and 3", tiredBehind(2, "v9(1=1);g2+i(1=1)"), 5);
        due("23 g 2 and 2", tiredBehind(2, "v9(1=1);g2(1=1)"), 4);
        due("23 r none: 0", tiredRested(2, "v9(1=1);g4(i=0)"), 4);
        due("23 r of one that doesn't hold", tiredRested(2, "v9(1=1);g4(i=0);r1(1=2)"), 4);
        due("23 r 1", tiredRested(1, "v9(1=1);g5(i=0);r1(1=1)"), 4);
        due("23 r 1, twice", tiredRested(2, "v9(1=1);g5(i=0);r1(1=1)"), 3);
        due("23 r 5 of 5", tiredRested(1, "v9(1=1);g5(i=0);r5(1=1)"), 0);
        due("23 r 4 of 5", tiredRested(1, "v9(1=1);g5(i=0);r4(1=1)"), 1);
        due("23 r 6 of 5", tiredRested(1, "v9(1=1);g5(i=0);r6(1=1)"), 0);
        due("23 r 3 of 5, twice", tiredRested(2, "v9(1=1);g5(i=0);r3(1=1)"), 0);
        due("23 r -1", tiredRested(1, "v9(1=1);g4(i=0);r0-1(1=1)"), 4);
    }

    private static void lettersOfPace() {
        paces("vk(1=1)", 3);
        paces("vb(1=1)", 60);
        paces("vb-1(1=1)", 59);
        paces("vl(1=1)", 2);
        paces("vt(1=1)", 1);
        paces("vh(1=1)", 4);
        paces("vm(1=1)", 5);
        paces("vi+7(1=1)", 7);
        paces("vn(1=1)", 1);
        paces("vw+7(1=1)", 7);
        SlowPace x = told("v20+h(1=1)");
        due("9 downhill", x.pace(0, 0, 0, 1), 14);
        x = told("v20+i*m(1=1)");
        due("9 piece 1", x.pace(0, 0, 0, 1), 27);
        x.walker(1, 250);
        Told.text(x, "v20+w+k+n(1=1)");
        due("9 walker 1", x.pace(1, 0, 0, 0), 24);
        due("9 walker 0", x.pace(0, 0, 0, 0), 25);
        Told.text(x, "vl-960(1=1)");
        due("9 1000 pounds", x.pace(0, 1000, 0, 0), 40);
        due("9 999 pounds", x.pace(0, 999, 0, 0), 39);
        Told.text(x, "vt*9+l*0(t<5|t=5)");
        due("9 5 tired", x.pace(0, 0, 5, 0), 45);
        due("9 0 tired", x.pace(0, 0, 0, 0), 0);
    }

    private static void lettersOfTired() {
        String[] sums = {"w", "k", "b", "l", "t", "h", "m", "i", "n", "q"};
        int[] values = {0, 3, 60, 12, 0, 4, 5, 0, 1, 100};
        for (int i = 0; i < sums.length; i++) {
            SlowPace x = told("v30(1=1);g3(" + sums[i] + "=" + values[i] + ")");
            x.load(12, -1, 0);
            Told.plan(x, 0, 0);
            Told.march(x, 12, 0);
            Told.text(x, "v30(1=1);g3(i=0&" + sums[i] + "=" + values[i] + ")");
            due("23 on piece 0 " + sums[i], x.ran(1), 3);
        }
        values = new int[] {0, 3, 60, 10, 2, -6, 7, 1, 1, 140};
        for (int i = 0; i < sums.length; i++) {
            SlowPace x = told("v30(1=1);g2(i=0);g3(" + sums[i] + "=" + (values[i] < 0 ? "0" : "0+") + values[i] + ")");
            x.load(12, -1, 2);
            Told.plan(x, 0, 0);
            Told.march(x, 0, 12);
            due("23 on piece 1 " + sums[i], x.ran(1), 5);
        }
    }

    private static void lettersOfRest() {
        String[] sums = {"w", "k", "b", "l", "t", "h", "m", "i", "n"};
        int[] values = {0, 3, 60, 0, 4, 0, 0, 1, 1};
        for (int i = 0; i < sums.length; i++) {
            SlowPace x = told("v30(1=1);g4(i=0);r3(" + sums[i] + "=" + values[i] + ")");
            x.load(12, -1, 2);
            Told.plan(x, 0, 0);
            Told.march(x, 0, 6);
            due("23 in a rest " + sums[i], x.ran(1), 1);
        }
        SlowPace x = told("v30(1=1);g4(i=0);r1(t=4);r2(t=3)");
        x.plan(0);
        Told.march(x, 0, 12);
        due("23 the second rest by how tired he still is", x.ran(1), 1);
        Told.text(x, "v30(1=1);g4(i=0);r4(i=0)");
        due("23 i is not the piece that lies behind", x.ran(1), 4);
        Told.text(x, "v30-t(1=1);g4(i=0);rw+2(w=0)");
        due("23 less tired ahead of the piece", x.ran(0), 100 + 60 + 140);
    }

    private static void order() {
        paces("v1(1=2);v2(1=1);v3(1=1)", 2);
        paces("g7(1=1);r8(1=1);v9(1=1)", 9);
        paces("v10-3-4(1=1)", 3);
        paces("v10-3+4(1=1)", 11);
        paces("v10-[3+4](1=1)", 3);
        paces("v24/4/2(1=1)", 3);
        paces("v24/[4/2](1=1)", 12);
        paces("v24/4*2(1=1)", 12);
        paces("v7*5%4(1=1)", 3);
        paces("v7%4*5(1=1)", 15);
        paces("v2+3*4-1(1=1)", 13);
        paces("v20-6/4(1=1)", 19);
        paces("v5(0=1|1=1&0=1);v6(1=1)", 6);
        paces("v5(1=1|0=1&0=1);v6(1=1)", 5);
        paces("v5(0=1&0=1|1=1);v6(1=1)", 5);
        paces("v5(0=1&(0=1|1=1));v6(1=1)", 6);
        paces("v5(!0=1&0=1);v6(1=1)", 6);
        paces("v5(!(0=1&0=1));v6(1=1)", 5);
        paces("v5(!0=1|0=1);v6(1=1)", 5);
        paces("v5(!!1=1);v6(1=1)", 5);
        paces("v5(!!!1=1);v6(1=1)", 6);
        paces("v5(1+1<2);v6(1+1<3);v7(1=1)", 6);
        paces("v5(2>1+1);v6(3>1+1);v7(1=1)", 6);
        paces("v5(2=1+2);v6(3=1+2);v7(1=1)", 6);
        paces("v5(0-2<0-1);v6(1=1)", 5);
        paces("v5(0-1>0-2);v6(1=1)", 5);
    }

    private static void machine() {
        paces("v[0-7]/2+10(1=1)", 7);
        paces("v[0-7]%4+10(1=1)", 7);
        paces("v7/[0-2]+10(1=1)", 7);
        paces("v7%[0-4]+10(1=1)", 13);
        paces("v65536*65536+9(1=1)", 9);
        paces("v9(65536*32767+65535>0);v8(1=1)", 9);
        paces("v9(65536*32767+65535+1<0);v8(1=1)", 9);
        paces("v9(0-65536*32768-1>0);v8(1=1)", 9);
        paces("v9(65536*32768/[0-1]<0);v8(1=1)", 9);
        paces("v9(65536*32768/[0-1]=65536*32768);v8(1=1)", 9);
        paces("v9(65536*32768%[0-1]=0);v8(1=1)", 9);
        paces("v9(0-[65536*32768]=65536*32768);v8(1=1)", 9);
        paces("v9(99999*99999=14100*99999+6175+17649*99999*1+6);v8(1=1)", 8);
        paces("v9(99999*99999>0);v8(1=1)", 9);
        paces("v9(50000*50000<0);v8(1=1)", 9);
    }

    private static void refusedSum() {
        paces("v9/0(1=1)", 0);
        paces("v9%0(1=1)", 0);
        paces("v9/[l-2](1=1)", 0);
        paces("v9+0/0(1=1)", 0);
        paces("v9+0*[1/0](1=1)", 0);
        paces("v9/0+9(1=1)", 0);
        paces("v0/9+9(1=1)", 9);
        paces("v9/0(1=1);v8(1=1)", 0);
        paces("v9/0(1=2);v8(1=1)", 8);
        due("23 g refused", tiredBehind(1, "v9(1=1);g3/0(1=1);g4(1=1)"), 0);
        due("23 g refused below 0 is 0", tiredBehind(2, "v9(1=1);g3(i=0);g0-3-1/0(i=1)"), 3);
        due("23 r refused", tiredRested(1, "v9(1=1);g5(i=0);r3%0(1=1);r4(1=1)"), 5);
    }

    private static void refusedCondition() {
        String[] refused = {"1/0=1", "1=1/0", "1%0=0", "0/0=0", "1<1/0", "1/0>1", "[1/0]=1", "1+1/0=1", "!1/0=1",
            "!!1/0=1", "(1/0=1)", "!(1/0=1)", "1/0=1|1=1", "(1/0=1)|1=1", "!(1/0=1)|1=1", "0=1|1/0=1|1=1",
            "1=1&1/0=1|1=1", "(0=1|1/0=1)|1=1", "!(1=1&1/0=1)|1=1", "1=1&(1=1&!1/0=1)|1=1", "1/0=1/0"};
        for (String c : refused) {
            paces("v5(" + c + ");v6(1=1)", 6);
            due("23 g " + c, tiredBehind(1, "v9(1=1);g3(" + c + ");g2(1=1)"), 2);
            due("23 r " + c, tiredRested(1, "v9(1=1);g5(i=0);r3(" + c + ");r2(1=1)"), 3);
        }
    }

    private static void askedAsMatters() {
        String[] holds = {"1=1|1/0=1", "1=1|!1/0=1", "0=1&1/0=1|1=1", "0=1&(1/0=1|1=1)|1=1", "(1=1|1/0=1)&1=1",
            "!(0=1&1/0=1)", "1=1|0=1&1/0=1", "1=1|1/0=1&0=1|1/0=1", "!(1=1&0=1&1/0=1)&1=1", "(1=1)|(1/0=1)",
            "0=1|1=1|1/0=1"};
        for (String c : holds) {
            paces("v5(" + c + ");v6(1=1)", 5);
        }
        String[] not = {"0=1&1/0=1", "!(1=1|1/0=1)", "0=1&1/0=1&1=1", "(0=1&1/0=1)|0=1"};
        for (String c : not) {
            paces("v5(" + c + ");v6(1=1)", 6);
            paces("v5(!(" + c + "));v6(1=1)", 5);
        }
        paces("v5(1=1);v1/0(1/0=1)", 5);
        paces("v1/0(0=1);v5(1=1)", 5);
    }

    private static void longTexts() {
        String all = "1=1" + "&1=1".repeat(48);
        due("8 as long as it may be, but one", ("v9(" + all + ")").length(), 199);
        paces("v9(" + all + ")", 9);
        paces("v9(" + all.replace("&", "|").replace("1=1", "0=1").substring(0, 192) + "1=1)", 9);
        paces("v9(" + all.substring(0, 187) + "&1=2)", 0);
        paces("v9(" + "!1=2&".repeat(38) + "!1=2)", 9);
        paces("v0" + "+1".repeat(60) + "-9-9-9" + "(1=1)", 33);
        paces("v60" + "-1".repeat(96) + "(1=1)", 0);
        paces("v9([[[[[1]]]]]=[[[[[1]]]]]&[[[[[1]]]]]<[[[[[2]]]]])", 9);
        paces("v[[[[[[1+2]*3]-4]*5]-6]*2](1=1)", 38);
        SlowPace x = told("v9(1=1)");
        for (int i = 0; i < 30; i++) {
            due("8 text " + i + " in place of the one before", Told.text(x, "v" + i + "+0".repeat(60) + "(1=1)"), 1);
            due("8 and it is asked", x.pace(0, 0, 0, 0), i);
        }
    }
}
