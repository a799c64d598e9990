/** Bands that tests begin with. */
final class Scene {
    private Scene() {
    }

    /** So many walkers, all alike (knee 0, 50 pounds), and level pieces of one mile, under a text. */
    static SlowPace level(int walkers, int pieces, String text) {
        SlowPace x = new SlowPace();
        for (int i = 0; i < walkers; i++) {
            x.walker(0, 50);
        }
        for (int i = 0; i < pieces; i++) {
            x.piece(1, 0);
        }
        int clauses = Told.text(x, text);
        if (clauses < 1) {
            throw new IllegalStateException("text " + text + " answered " + clauses);
        }
        return x;
    }

    /** Loads that are nobody's and are not eaten. */
    static SlowPace laden(SlowPace x, int... weights) {
        for (int weight : weights) {
            x.load(weight, SlowPace.NONE, 0);
        }
        return x;
    }

    /** What a band answers to all kinds of questions that change nothing, but for the length of its tape. */
    static String answers(SlowPace x) {
        StringBuilder told = new StringBuilder();
        for (int i = 0; i < 20; i++) {
            told.append(i == 4 ? 0 : x.count(i)).append(' ');
        }
        for (int w = 0; w < 6; w++) {
            told.append(x.pace(w, 7, 2, 0)).append(' ').append(x.carry(w, 20, 1, 1)).append(' ');
        }
        for (int what = -1; what < 4; what++) {
            told.append(x.whole(1, 8, what)).append(' ').append(x.ran(what)).append(' ').append(x.best(what));
            told.append(' ').append(x.gap(what)).append(' ').append(x.kettle(what)).append(' ');
        }
        told.append(x.wont(0, 0)).append(' ').append(x.parts(30, 1, 7, 1)).append(' ').append(x.often(1));
        told.append(' ').append(x.edge()).append(' ').append(x.bands(1, 2, 0)).append(' ').append(x.goes(0, 0));
        told.append(' ').append(x.carried(0, 0, 1)).append(' ').append(x.mule(9, 1, 0, 1));
        told.append(' ').append(x.ahead(0, 0, 9, 0)).append(' ').append(x.pounds(0, 0, 0));
        return told.toString();
    }
}
