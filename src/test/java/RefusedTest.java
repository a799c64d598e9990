/** What a refused call leaves as it was, what a question changes (nothing), and which of several answers goes first. */
public final class RefusedTest {
    private static final Told TOLD = new Told();

    /** A call; a boolean answers 1 or 0. */
    private interface Call {
        long on(SlowPace x);
    }

    public static void main(String[] args) {
        refusedTold();
        refusedFull();
        refusedTape();
        tapeStays();
        tapeIsEmptied();
        asked();
        askedTwice();
        notSuchGoesFirst();
        notToldGoesFirst();
        longRun();
        System.exit(TOLD.end());
    }

    private static void due(String what, long got, long want) {
        TOLD.due(what, got, want);
    }

    private static void due(String what, boolean got, boolean want) {
        TOLD.due(what, got, want);
    }

    private static long is(boolean answer) {
        return answer ? 1 : 0;
    }

    /** Three walkers, one of them lame, three loads, three pieces, a text, two plans, a march, 20 bytes on the tape. */
    private static SlowPace band() {
        SlowPace x = Scene.level(3, 0, "v50-l-t*5-h(1=1);g1(l>10);r1(1=1)");
        x.piece(2, 1);
        x.piece(1, 0);
        x.piece(3, -2);
        x.load(20, -1, 2);
        x.load(10, 1, 0);
        x.load(5, -1, 1);
        x.lame(2, true);
        x.change(7);
        Told.plan(x, 1, 0, 1, 0);
        Told.plan(x, 4, 2, 1, 0);
        Told.march(x, 1, 10, 7);
        Told.bytes(x, 1, 1, 1);
        return x;
    }

    /** Six walkers, nine loads, ten pieces. */
    private static SlowPace full() {
        SlowPace x = Scene.level(6, 10, "v60-l(1=1)");
        Scene.laden(x, 1, 2, 3, 4, 5, 6, 7, 8, 9);
        Told.plan(x, 0, 0, 1, 2, 3, 4, 5, 0, 1, 2);
        Told.march(x, 0, 0, 0, 0, 0, 0, 0, 0, 0, 0);
        Told.bytes(x, 1, 1, 1, 1, 1, 1, 1, 1, 1);
        return x;
    }

    private static void kept(String what, SlowPace x, Call call, long answer) {
        String before = Scene.answers(x);
        int tape = x.count(4);
        due(what, call.on(x), answer);
        due(what + ": the tape", x.count(4), tape);
        due(what + ": all else", Scene.answers(x).equals(before), true);
    }

    private static void refusedTold() {
        kept("2 walker(10, 50)", band(), x -> x.walker(10, 50), -1);
        kept("2 walker(0, 19)", band(), x -> x.walker(0, 19), -1);
        kept("3 load(0, -1, 0)", band(), x -> x.load(0, -1, 0), -1);
        kept("3 load(121, -1, 0)", band(), x -> x.load(121, -1, 0), -1);
        kept("3 load(1, 3, 0)", band(), x -> x.load(1, 3, 0), -1);
        kept("3 load(1, -2, 0)", band(), x -> x.load(1, -2, 0), -1);
        kept("3 load(1, -1, 21)", band(), x -> x.load(1, -1, 21), -1);
        kept("4 piece(0, 0)", band(), x -> x.piece(0, 0), -1);
        kept("4 piece(1, 10)", band(), x -> x.piece(1, 10), -1);
        kept("5 lame(3, true)", band(), x -> is(x.lame(3, true)), 0);
        kept("5 lame(-1, true)", band(), x -> is(x.lame(-1, true)), 0);
        kept("5 lame(2, true)", band(), x -> is(x.lame(2, true)), 0);
        kept("5 lame(0, false)", band(), x -> is(x.lame(0, false)), 0);
        kept("6 change(-1)", band(), x -> is(x.change(-1)), 0);
        kept("6 change(121)", band(), x -> is(x.change(121)), 0);
        kept("6 change(7), as it is", band(), x -> is(x.change(7)), 1);
    }

    private static void refusedFull() {
        kept("2 a seventh", full(), x -> x.walker(0, 50), -1);
        kept("3 a tenth", full(), x -> x.load(1, -1, 0), -1);
        kept("4 an eleventh", full(), x -> x.piece(1, 0), -1);
        SlowPace y = full();
        for (int i = 2; i <= 11; i++) {
            due("7 feed " + i, y.feed(0, 0, 0, 0, 0), 20 * i);
        }
        kept("7 more than 220", y, x -> x.feed(1, 2, 3, 4, 5), -1);
        due("7 what was on it", y.plan(5), true);
    }

    private static void refusedTape() {
        kept("8 text(0)", band(), x -> x.text(0), -1);
        kept("8 text(21)", band(), x -> x.text(21), -1);
        kept("8 text(201)", band(), x -> x.text(201), -1);
        kept("21 plan(-1)", band(), x -> is(x.plan(-1)), 0);
        kept("21 plan(6)", band(), x -> is(x.plan(6)), 0);
        kept("22 march(2)", band(), x -> is(x.march(2)), 0);
        kept("22 march(4)", band(), x -> is(x.march(4)), 0);
        kept("22 march(0)", band(), x -> is(x.march(0)), 0);
        kept("30 check(6)", band(), x -> x.check(6), -2);
        SlowPace empty = band();
        empty.text(1);
        kept("8 nothing on the tape", empty, x -> x.text(1), -1);
        kept("21 nothing on the tape", empty, x -> is(x.plan(0)), 0);
        kept("21 nothing on the tape, a told one", empty, x -> is(x.plan(1)), 0);
        kept("22 nothing on the tape", empty, x -> is(x.march(3)), 0);
        kept("30 nothing on the tape", empty, x -> x.check(1), -2);
    }

    /** The bytes themselves stay, not their number alone. */
    private static void tapeStays() {
        Call[] refused = {x -> x.text(0), x -> x.text(21), x -> is(x.plan(6)), x -> is(x.plan(-1)),
            x -> is(x.march(2)), x -> is(x.march(4)), x -> is(x.march(0)), x -> x.check(6)};
        for (int i = 0; i < refused.length; i++) {
            SlowPace x = band();
            refused[i].on(x);
            due("the tape stays " + i, x.plan(0), true);
            due("the plan of its bytes " + i, Told.march(x, 0, 0, 0), true);
            due("walker 1 carries all " + i, x.kettle(0), 1);
        }
    }

    private static void emptied(String what, int[] bytes, Call call, long answer) {
        SlowPace x = band();
        x.text(1);
        Told.bytes(x, bytes);
        String before = Scene.answers(x);
        due(what, call.on(x), answer);
        due(what + ": empty then", x.count(4), 0);
        due(what + ": all else", Scene.answers(x).equals(before), true);
    }

    private static void tapeIsEmptied() {
        emptied("8 a fault", new int[] {'v', '1', '(', '1', '=', '1', ';'}, x -> x.text(7), -1006);
        emptied("21 no such walker", new int[] {0, 1, 3}, x -> is(x.plan(0)), 0);
        emptied("21 no such walker, a told one", new int[] {3, 1, 0}, x -> is(x.plan(1)), 0);
        emptied("21 an owner's with another one", new int[] {0, 0, 0}, x -> is(x.plan(4)), 0);
        emptied("22 no such rests", new int[] {1, 1, 19}, x -> is(x.march(3)), 0);
        emptied("22 a plan that is not told", new int[] {0, 1, 1}, x -> is(x.march(3)), 0);
        emptied("30 not so", new int[] {0, 0, 0, 1}, x -> x.check(1), 0);
        emptied("30 some are lacking", new int[] {0, 0, 0, 1}, x -> x.check(0), 0);
    }

    private static Call[] questions() {
        return new Call[] {x -> x.pace(1, 9, 3, 2), x -> x.carry(2, 9, 1, 1), x -> x.parts(30, 2, 99, 0),
            x -> x.whole(1, 43, 2), x -> x.whole(0, 0, -1), x -> x.whole(2, 7, 9), x -> x.wont(0, 1),
            x -> x.who(0, 0, 0), x -> x.who(1, 1, 1), x -> x.pounds(0, 1, 8), x -> x.pounds(2, 0, 0),
            x -> x.ahead(0, 0, 30, 0), x -> x.ahead(2, 7, 0, 2), x -> x.stages(0, 3, 2), x -> x.goes(1, 40),
            x -> x.carried(0, 0, 0), x -> x.carried(2, 7, 1), x -> x.mule(9, 2, 1, 0), x -> x.ran(0), x -> x.ran(1),
            x -> x.ran(2), x -> x.ran(3), x -> x.gap(1), x -> x.best(-1), x -> x.best(2), x -> x.often(0),
            x -> x.often(3), x -> x.edge(), x -> x.bands(3, 4, 0), x -> x.bands(4, 1, 1), x -> x.kettle(0),
            x -> x.count(6), x -> x.count(12)};
    }

    private static void asked() {
        Call[] questions = questions();
        for (int i = 0; i < questions.length; i++) {
            SlowPace x = band();
            kept("question " + i, x, questions[i], questions[i].on(band()));
        }
    }

    /** Behind any other question each one is answered as on a fresh band. */
    private static void askedTwice() {
        Call[] questions = questions();
        for (int i = 0; i < questions.length; i++) {
            SlowPace x = band();
            for (int k = 0; k < questions.length; k++) {
                questions[i].on(x);
                due("question " + k + " behind " + i, questions[k].on(x), questions[k].on(band()));
            }
        }
    }

    private static void notSuchGoesFirst() {
        SlowPace x = Scene.level(1, 1, "v0(1=1)");
        Scene.laden(x, 120);
        due("11 none can, no such what", x.parts(0, 0, 0, 3), -1);
        due("12 no pace, no such what", x.whole(0, 0, 1), -3);
        due("12 no pace, no such piece", x.whole(1, 0, 9), -3);
        due("14 grows by nobody, no such what", x.who(0, 0, 2), -2);
        due("15 never grows, no such load", x.pounds(1, 0, 0), -1);
        due("15 never grows, no such piece", x.pounds(0, 1, 0), -1);
        due("16 none can, fewer than three", x.ahead(0, 0, 0, 0), -1);
        due("17 it can't be, no such n", x.stages(0, 0, 6), -1);
        due("18 none can, no such piece", x.goes(1, 0), -1);
        due("19 none can, no such what", x.carried(0, 0, 2), -3);
        due("20 none can, fewer pieces", x.mule(1, 2, 0, 0), -1);
        due("20 none can, no such what", x.mule(1, 1, 0, 2), -1);
        x.walker(0, 50);
        due("28 one can't go, no such what", x.bands(1, 2, 2), -1);
        due("28 one can't go, one in both", x.bands(3, 2, 0), -1);
        due("28 one can't go", x.bands(1, 2, 0), -2);
    }

    private static void notToldGoesFirst() {
        SlowPace x = Scene.level(2, 2, "v60(i=0)");
        due("23 no such what, none is told", x.ran(7), -1);
        due("24 no such one, none is told", x.gap(2), -1);
        due("24 none is told", x.gap(1), -1);
        due("25 no such what, none is told", x.best(2), -1);
        due("26 no such number, none is told", x.often(4), -1);
        x.plan(0);
        due("25 no such what, none can", x.best(2), -1);
        due("26 no such number, none can", x.often(-1), -1);
        due("27 none without a change can be", x.edge(), -2);
        Told.march(x, 0, 0);
        due("24 spent, no such one", x.gap(2), -1);
        due("24 spent on it", x.gap(1), -2);
        due("23 spent, no such what", x.ran(4), -1);
        due("29 no such one", x.kettle(0), -1);
        Told.bytes(x, 0, 0, 0, 10);
        due("30 some are lacking, not so many", x.check(6), -2);
        due("30 right", x.check(1), -1);
    }

    /** 512 calls on one object, as many as are promised: the last ones are answered as the first ones. */
    private static void longRun() {
        SlowPace x = band();
        Call[] questions = questions();
        for (int call = 0; call < 480; call++) {
            int k = call % questions.length;
            due("call " + call, questions[k].on(x), questions[k].on(band()));
        }
    }
}
