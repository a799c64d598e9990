/** The calls that README.md shows, in its order, each with the answer that it tells. */
public final class ReadmeTest {
    private static final Told TOLD = new Told();

    public static void main(String[] args) {
        SlowPace band = new SlowPace();
        tell(band);
        ask(band);
        march(band);
        System.exit(TOLD.end());
    }

    private static void due(String what, long got, long want) {
        TOLD.due(what, got, want);
    }

    private static void due(String what, boolean got, boolean want) {
        TOLD.due(what, got, want);
    }

    private static void tell(SlowPace band) {
        due("walker(0, 150)", band.walker(0, 150), 0);
        due("walker(5, 120)", band.walker(5, 120), 1);
        due("load(40, NONE, 0)", band.load(40, SlowPace.NONE, 0), 0);
        due("load(20, NONE, 0)", band.load(20, SlowPace.NONE, 0), 1);
        due("load(30, NONE, 0)", band.load(30, SlowPace.NONE, 0), 2);
        due("piece(4, 0)", band.piece(4, 0), 0);
        due("piece(2, 5)", band.piece(2, 5), 1);
        due("load(30, 7, 0)", band.load(30, 7, 0), SlowPace.NONE);
        due("feed v40-l/5-k*2-h-t*3(1", band.feed(0x7634302d, 0x6c2f352d, 0x6b2a322d, 0x682d742a, 0x3328313d), 20);
        due("feed =1);g1(l>50);r2(1=1)", band.feed(0x31293b67, 0x31286c3e, 0x3530293b, 0x72322831, 0x3d312920), 40);
        due("text(39)", band.text(39), 3);
    }

    private static void ask(SlowPace band) {
        due("pace(0, 40, 0, 0)", band.pace(0, 40, 0, 0), 32);
        due("carry(0, 32, 0, 0)", band.carry(0, 32, 0, 0), 44);
        due("whole(0, 0, NONE)", band.whole(0, 0, SlowPace.NONE), 26);
        due("whole(0, 0, 1)", band.whole(0, 0, 1), 1);
        due("whole(0, 0, 9)", band.whole(0, 0, 9), 93);
    }

    private static void march(SlowPace band) {
        band.feed(0x00010000, 0, 0, 0, 0);
        due("plan(0)", band.plan(0), true);
        band.feed(0x00060000, 0, 0, 0, 0);
        due("march(2)", band.march(2), true);
        due("ran(0)", band.ran(0), 181);
        due("ran(1)", band.ran(1), 1);
        due("best(NONE)", band.best(SlowPace.NONE), 160);
        due("best(1)", band.best(1), 0);
        band.feed(93, 88, 0, 0, 0);
        due("check(2)", band.check(2), SlowPace.NONE);
    }
}
