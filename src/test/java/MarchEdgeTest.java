/** The edges of plans, marches and bands (promises 21 to 31): bounds, the empty and the full, what falls and stays. */
public final class MarchEdgeTest {
    private static final Told TOLD = new Told();
    private static final int LOWEST = Integer.MIN_VALUE;
    private static final int HIGHEST = Integer.MAX_VALUE;

    public static void main(String[] args) {
        planNumbers();
        planWalkers();
        planOwners();
        planOfNothing();
        planFalls();
        marchLengths();
        marchTape();
        marchSigns();
        marchStays();
        ranWhat();
        ranTired();
        ranChanges();
        ranRests();
        ranSigns();
        ranPaces();
        ranSpent();
        ranAsAllIsNow();
        gap();
        gapSpent();
        bestWhat();
        bestWalkers();
        bestNobody();
        bestRests();
        bestLike();
        bestPlans();
        bestTired();
        bestEased();
        bestMany();
        bestAllTired();
        often();
        edge();
        edgeBounds();
        bandsSets();
        bandsMinutes();
        bandsPieces();
        kettle();
        checkLengths();
        checkNumbers();
        checkSpent();
        count();
        System.exit(TOLD.end());
    }

    private static void due(String what, long got, long want) {
        TOLD.due(what, got, want);
    }

    private static void due(String what, boolean got, boolean want) {
        TOLD.due(what, got, want);
    }

    private static void planNumbers() {
        SlowPace x = Scene.laden(Scene.level(2, 1, "v60-l(1=1)"), 10, 20);
        int[] none = {-1, 6, 7, 32, LOWEST, HIGHEST};
        Told.bytes(x, 0, 1);
        for (int k : none) {
            due("21 plan(" + k + ")", x.plan(k), false);
            due("21 the tape stays", x.count(4), 20);
            due("21 none is told", x.count(6), 0);
        }
        due("21 what was on it", x.plan(0), true);
        due("21 empty then", x.count(4), 0);
        for (int k = 1; k < 6; k++) {
            due("21 not so many", x.plan(k), false);
            due("21 plan " + k, Told.plan(x, k, 0, 1), true);
            due("21 told", x.count(6), (2 << k) - 1);
        }
        due("21 in place of the one before", Told.plan(x, 5, 1, 1), true);
        due("21 as many as before", x.count(6), 63);
        Told.march(x, 5);
        due("21 the new one", x.ran(0), 20);
        Told.march(x, 4);
        due("21 the others are as before", x.ran(0), 15);
        Told.march(x, 0);
        due("21 the others are as before", x.ran(0), 15);
    }

    private static void planWalkers() {
        SlowPace x = Scene.laden(Scene.level(3, 1, "v60-l(1=1)"), 1, 2, 3, 4, 5, 6, 7, 8, 9);
        due("21 walkers 0 to 2", Told.plan(x, 0, 0, 1, 2, 0, 1, 2, 0, 1, 2), true);
        due("21 of nine loads the last to 3", Told.plan(x, 1, 0, 1, 2, 0, 1, 2, 0, 1, 3), false);
        due("21 empty then", x.count(4), 0);
        due("21 the first to 3", Told.plan(x, 1, 3, 1, 2, 0, 1, 2, 0, 1, 2), false);
        due("21 to 255", Told.plan(x, 1, 255, 1, 2, 0, 1, 2, 0, 1, 2), false);
        due("21 to 6", Told.plan(x, 1, 0, 0, 0, 0, 6, 0, 0, 0, 0), false);
        due("21 none of them is told", x.count(6), 1);
        due("21 a tenth byte is no load's", Told.plan(x, 1, 2, 2, 2, 2, 2, 2, 2, 2, 2, 99), true);
        due("21 now two are told", x.count(6), 3);
        x.walker(0, 50);
        due("21 a fourth walker", Told.plan(x, 1, 3, 3, 3, 3, 3, 3, 3, 3, 3), true);
        SlowPace nobody = Scene.laden(Scene.level(0, 1, "v60-l(1=1)"), 1);
        due("21 a load, and no walkers", Told.plan(nobody, 0, 0), false);
        due("21 empty then", nobody.count(4), 0);
    }

    private static void planOwners() {
        SlowPace x = Scene.level(3, 1, "v60-l(1=1)");
        x.load(10, 1, 0);
        x.load(10, -1, 0);
        x.load(10, 0, 0);
        due("21 the owners keep theirs", Told.plan(x, 0, 1, 2, 0), true);
        due("21 the first one's", Told.plan(x, 1, 0, 2, 0), false);
        due("21 empty then", x.count(4), 0);
        due("21 the last one's", Told.plan(x, 1, 1, 2, 1), false);
        due("21 both", Told.plan(x, 0, 0, 2, 1), false);
        due("21 one is told", x.count(6), 1);
        Told.march(x, 0);
        due("21 the plan before stays", x.ran(0), 12);
        due("21 anybody's is anybody's", Told.plan(x, 1, 1, 0, 0), true);
    }

    private static void planOfNothing() {
        SlowPace x = Scene.level(1, 1, "v60-l(1=1)");
        due("21 no loads: nothing is needed", x.plan(5), true);
        x.feed(-1, -1, -1, -1, -1);
        due("21 nor looked at", x.plan(0), true);
        due("21 empty then", x.count(4), 0);
        due("21 both are told", x.count(6), 33);
        due("21 6 all the same is none", x.plan(6), false);
        SlowPace nobody = new SlowPace();
        due("21 no walkers, no loads", nobody.plan(0), true);
        due("21 told", nobody.count(6), 1);
    }

    private static void planFalls() {
        SlowPace x = Scene.level(2, 1, "v60-l(1=1)");
        x.load(10, 0, 0);
        Told.plan(x, 0, 0);
        Told.march(x, 0);
        due("21 not so many", x.plan(0), false);
        due("21 no such k", Told.plan(x, 6, 0), false);
        due("21 the march stays", x.count(7), 1);
        x.text(1);
        due("21 no such walker", Told.plan(x, 0, 2), false);
        due("21 the march stays", x.count(7), 1);
        due("21 an owner's", Told.plan(x, 0, 1), false);
        due("21 the march stays", x.ran(0), 12);
        due("21 another one is taken", Told.plan(x, 4, 0), true);
        due("21 the march falls", x.count(7), 0);
        due("21 it is not run", x.ran(0), -2);
        Told.march(x, 0);
        due("21 the same once more", Told.plan(x, 0, 0), true);
        due("21 the march falls", x.count(7), 0);
    }

    private static void marchLengths() {
        SlowPace x = Scene.level(1, 3, "v60(1=1)");
        x.plan(0);
        Told.bytes(x, 0, 0, 0);
        int[] none = {0, 1, 2, 4, -1, -3, 10, LOWEST, HIGHEST};
        for (int n : none) {
            due("22 march(" + n + ") of 3", x.march(n), false);
            due("22 the tape stays", x.count(4), 20);
            due("22 none is told", x.count(7), 0);
        }
        due("22 all", x.march(3), true);
        due("22 empty then", x.count(4), 0);
        due("22 told", x.count(7), 1);
        SlowPace empty = Scene.level(1, 0, "v60(1=1)");
        empty.plan(0);
        Told.bytes(empty, 0);
        due("22 no pieces", empty.march(0), false);
        due("22 no pieces", empty.march(1), false);
        due("22 the tape stays", empty.count(4), 20);
        x = Scene.level(1, 10, "v60(1=1)");
        x.plan(0);
        due("22 ten", Told.march(x, 0, 0, 0, 0, 0, 0, 0, 0, 0, 0), true);
        due("22 ten are gone", x.ran(0), 100);
        due("22 eleven", Told.march(x, 0, 0, 0, 0, 0, 0, 0, 0, 0, 0, 0), false);
        due("22 that before stays", x.ran(0), 100);
    }

    private static void marchTape() {
        SlowPace x = Scene.level(1, 1, "v60(1=1)");
        x.plan(0);
        due("22 nothing on the tape", x.march(1), false);
        due("22 none is told", x.count(7), 0);
        SlowPace nobody = Scene.level(0, 1, "v60(1=1)");
        nobody.plan(0);
        Told.bytes(nobody, 0);
        due("22 no walkers", nobody.march(1), false);
        due("22 the tape stays", nobody.count(4), 20);
        nobody.walker(0, 50);
        due("22 one has come", nobody.march(1), true);
        Told.bytes(x, 0, 99, 99);
        due("22 the first byte alone", x.march(1), true);
        due("22 empty then", x.count(4), 0);
    }

    private static void marchSigns() {
        SlowPace x = Scene.level(1, 2, "v60(1=1)");
        int[] told = {0, 3, 5};
        for (int k : told) {
            x.plan(k);
        }
        for (int sign = 0; sign < 256; sign++) {
            boolean fine = sign < 18 && (sign % 6 == 0 || sign % 6 == 3 || sign % 6 == 5);
            due("22 first " + sign, Told.march(x, sign, 0), fine);
            due("22 empty then", x.count(4), 0);
            due("22 last " + sign, Told.march(x, 0, sign), fine);
            if (sign % 64 == 63) {
                x = Scene.level(1, 2, "v60(1=1)");
                for (int k : told) {
                    x.plan(k);
                }
            }
        }
        SlowPace none = Scene.level(1, 1, "v60(1=1)");
        due("22 no plan is told", Told.march(none, 0), false);
        due("22 empty then", none.count(4), 0);
    }

    private static void marchStays() {
        SlowPace x = Scene.level(1, 2, "v60(1=1)");
        x.plan(0);
        x.plan(5);
        Told.march(x, 6, 5);
        due("22 30 and a change", x.ran(0), 60);
        int[][] refused = {{0}, {0, 0, 0}, {18, 0}, {0, 18}, {1, 0}, {0, 4}, {255, 0}, {0, 255}};
        for (int[] row : refused) {
            due("22 refused", Told.march(x, row), false);
            due("22 that before stays", x.ran(0), 60);
            x.text(1);
        }
        due("22 nothing on the tape", x.march(2), false);
        due("22 that before stays", x.ran(0), 60);
        due("22 another one", Told.march(x, 17, 17), true);
        due("22 in its place", x.ran(0), 140);
        x.text(1);
        x.lame(0, true);
        x.change(7);
        due("22 it stays", x.count(7), 1);
        due("22 and runs slower", x.ran(0), 160);
    }

    private static void ranWhat() {
        SlowPace x = Scene.level(1, 1, "v60(1=1)");
        x.plan(0);
        int[] none = {-1, 4, 5, LOWEST, HIGHEST};
        for (int what : none) {
            due("23 no such what goes first " + what, x.ran(what), -1);
        }
        for (int what = 0; what < 4; what++) {
            due("23 none is told, what " + what, x.ran(what), -2);
        }
        Told.march(x, 0);
        for (int what : none) {
            due("23 no such what " + what, x.ran(what), -1);
        }
        int[] want = {10, 0, -1, 0};
        for (int what = 0; what < 4; what++) {
            due("23 what " + what, x.ran(what), want[what]);
        }
    }

    private static void ranTired() {
        int one = 1;
        for (int w = 0; w < 6; w++) {
            SlowPace x = Scene.level(6, 1, "v60(1=1);g3(w=" + w + ")");
            x.plan(0);
            Told.march(x, 0);
            due("23 walker " + w + " is 3 tired", x.ran(1), 3 * one);
            one *= 6;
        }
        SlowPace x = Scene.level(6, 1, "v60(1=1);g9(1=1)");
        x.plan(0);
        Told.march(x, 12);
        due("23 all are 5 tired", x.ran(1), 46655);
        x = Scene.laden(Scene.level(2, 3, "v60-t(1=1);gl(1=1)"), 1, 2);
        Told.plan(x, 0, 0, 1);
        Told.plan(x, 1, 1, 1);
        Told.march(x, 0, 0, 0);
        due("23 by what each carries", x.ran(1), 3 + 6 * 5);
        due("23 the least pace of each piece", x.ran(0), 10 + 11 + 11);
        Told.march(x, 1, 0, 0);
        due("23 3, 5, 5 of the second", x.ran(1), 2 + 6 * 5);
    }

    private static void ranChanges() {
        SlowPace x = Scene.level(1, 4, "v60(1=1)");
        x.plan(0);
        x.plan(1);
        x.plan(5);
        int[][] rows = {{0, 0, 0, 0}, {1, 0, 0, 0}, {0, 0, 0, 1}, {0, 1, 0, 1}, {0, 1, 1, 0}, {5, 5, 0, 0},
            {0, 6, 12, 0}, {6, 5, 17, 11}, {0, 7, 1, 13}};
        int[] changes = {0, 1, 1, 3, 2, 1, 0, 1, 1};
        int[] rests = {0, 0, 0, 0, 0, 0, 3, 4, 3};
        for (int i = 0; i < rows.length; i++) {
            Told.march(x, rows[i]);
            due("23 changes of row " + i, x.ran(3), changes[i]);
            due("23 minutes of row " + i, x.ran(0), 40 + 10 * changes[i] + 30 * rests[i]);
        }
        x.change(0);
        due("23 for nothing", x.ran(0), 130);
        due("23 it is a change", x.ran(3), 1);
        x.change(120);
        due("23 for 120", x.ran(0), 250);
    }

    private static void ranRests() {
        SlowPace x = Scene.level(1, 2, "v60-t*10(1=1);g5(i=0);r2(1=1)");
        x.plan(0);
        int[] pace = {10, 30, 50};
        for (int rests = 0; rests < 3; rests++) {
            Told.march(x, 0, 6 * rests);
            due("23 rests " + rests, x.ran(0), 10 + 30 * rests + 600 / pace[rests]);
            due("23 tired behind it", x.ran(1), 5 - 2 * rests);
            Told.march(x, 6 * rests, 0);
            due("23 ahead of the first piece nobody is tired", x.ran(0), 10 + 30 * rests + 60);
            due("23 tired all the same", x.ran(1), 5);
        }
        x = Scene.level(2, 2, "v60-t*10(1=1);g4(i=0);rw*3(1=1)");
        x.plan(0);
        Told.march(x, 0, 6);
        due("23 each by his own", x.ran(1), 4 + 6);
        due("23 the least pace", x.ran(0), 10 + 30 + 30);
    }

    /** Plan k gives a load to walker k, who alone gets tired by it: all signs ahead of the second piece. */
    private static void ranSigns() {
        SlowPace x = Scene.laden(Scene.level(6, 2, "v60-t(1=1);g2(i=0);g3(l>0);r1(1=1)"), 9);
        for (int k = 0; k < 6; k++) {
            Told.plan(x, k, k);
        }
        int one = 1;
        for (int k = 0; k < 6; k++) {
            for (int rests = 0; rests < 3; rests++) {
                Told.march(x, 0, 6 * rests + k);
                due("23 tired by sign " + (6 * rests + k), x.ran(1), 9331 * (2 - rests) + 3 * one);
                due("23 minutes by sign " + (6 * rests + k), x.ran(0), 10 + 30 * rests
                        + (k == 0 ? 0 : 10) + (rests < 2 ? 11 : 10));
                due("29 who carried", x.kettle(0), 0);
                Told.march(x, 6 * rests + k, 6 * rests + k);
                due("29 who carried by sign " + (6 * rests + k), x.kettle(0), k);
            }
            one *= 6;
        }
    }

    /** By his pace with what he carries, not by what he can carry at it. */
    private static void ranPaces() {
        SlowPace x = Scene.laden(Scene.level(2, 1, "v60(l<5);v10(l<7);v30(1=1)"), 8);
        Told.plan(x, 0, 0);
        Told.plan(x, 1, 1);
        Told.march(x, 0);
        due("23 30 with 8 pounds", x.ran(0), 20);
        due("24 30 and 60", x.gap(0), 10);
        due("25 as it is run", x.best(-1), 20);
    }

    private static void ranSpent() {
        SlowPace x = Scene.level(1, 3, "v60(i<1);v60(t<3&i<2);v30(t=0);g5(1=1);r2(1=1)");
        x.plan(0);
        x.plan(1);
        int[][] rows = {{0, 0, 0}, {0, 6, 0}, {0, 13, 0}, {6, 12, 13}, {12, 12, 12}};
        int[] minutes = {10, 10, 90, 110, 140};
        int[] where = {1, 1, 2, 2, 2};
        int[] changes = {0, 0, 1, 0, 0};
        for (int i = 0; i < rows.length; i++) {
            Told.march(x, rows[i]);
            due("23 minutes of row " + i, x.ran(0), minutes[i]);
            due("23 spent in row " + i, x.ran(2), where[i]);
            due("23 tired as behind the piece that was gone", x.ran(1), 5);
            due("23 changes of row " + i, x.ran(3), changes[i]);
        }
        Told.text(x, "v60(i>0);g5(1=1)");
        due("23 spent at the first", x.ran(2), 0);
        due("23 no minutes, with rests ahead of it", x.ran(0), 0);
        due("23 nobody tired", x.ran(1), 0);
        due("23 no changes", x.ran(3), 0);
        Told.text(x, "v60(i<2)");
        due("23 spent at the last", x.ran(2), 2);
        due("23 all but the last", x.ran(0), 20 + 120);
        Told.text(x, "v60(1=1)");
        due("23 spent nowhere", x.ran(2), -1);
        x = Scene.level(2, 1, "v60(w=0)");
        x.plan(0);
        Told.march(x, 0);
        due("23 if one can't go nobody does", x.ran(2), 0);
    }

    private static void ranAsAllIsNow() {
        SlowPace x = Scene.laden(Scene.level(2, 2, "v60-l(1=1)"), 10);
        Told.plan(x, 0, 1);
        Told.march(x, 0, 0);
        due("23 12 each", x.ran(0), 24);
        Told.text(x, "v60-l*5(1=1)");
        due("23 by the text that is told now", x.ran(0), 120);
        x.lame(1, true);
        due("23 with the lame one", x.ran(0), 240);
        x.lame(1, false);
        x.lame(0, true);
        due("23 the other one's half is more", x.ran(0), 120);
        due("23 asked once more", x.ran(0), 120);
    }

    private static void gap() {
        SlowPace x = Scene.laden(Scene.level(3, 2, "v60-l-w*5-t*5(1=1);g1(w=2);r1(1=1)"), 20, 30);
        int[] none = {0, 1, -1, 2, LOWEST, HIGHEST};
        for (int piece : none) {
            due("24 none is told, piece " + piece, x.gap(piece), -1);
        }
        Told.plan(x, 0, 0, 1);
        Told.march(x, 0, 0);
        due("24 40, 25, 50", x.gap(0), 24 - 12);
        due("24 40, 25, 45", x.gap(1), 24 - 14);
        Told.march(x, 0, 6);
        due("24 behind a rest as on the first", x.gap(1), 24 - 12);
        for (int i = 2; i < none.length; i++) {
            due("24 no piece " + none[i], x.gap(none[i]), -1);
        }
        Told.text(x, "v60(1=1)");
        due("24 all alike", x.gap(0), 0);
        x.lame(2, true);
        due("24 but one", x.gap(1), 10);
        x = Scene.level(1, 1, "v7(1=1)");
        x.plan(0);
        Told.march(x, 12);
        due("24 one alone", x.gap(0), 0);
    }

    private static void gapSpent() {
        SlowPace x = Scene.level(2, 3, "v60-w(i=0);v30(w=0&i=1);v20(i=2)");
        x.plan(0);
        Told.march(x, 0, 0, 0);
        due("24 ahead of it", x.gap(0), 1);
        due("24 somebody can't go there", x.gap(1), -2);
        due("24 it is spent ahead of it", x.gap(2), -2);
        due("24 no such one goes first", x.gap(3), -1);
        Told.text(x, "v60(i>0)");
        due("24 nobody can", x.gap(0), -2);
        due("24 spent ahead of it", x.gap(1), -2);
    }

    private static void bestWhat() {
        SlowPace x = Scene.level(1, 3, "v60(1=1)");
        int[] none = {-2, 3, 9, 10, LOWEST, HIGHEST};
        for (int what : none) {
            due("25 without a plan no such what " + what, x.best(what), -1);
        }
        for (int what = -1; what < 3; what++) {
            due("25 without a plan, what " + what, x.best(what), -2);
        }
        due("26 without a plan", x.often(0), -2);
        due("26 without a plan", x.often(3), -2);
        due("27 without a plan", x.edge(), -2);
        x.plan(5);
        for (int what : none) {
            due("25 no such what " + what, x.best(what), -1);
        }
        due("25 minutes", x.best(-1), 30);
        for (int what = 0; what < 3; what++) {
            due("25 piece " + what, x.best(what), 5);
        }
        due("25 the march is not told by that", x.count(7), 0);
        Told.text(x, "v60(i<2)");
        for (int what = -1; what < 3; what++) {
            due("25 none can, what " + what, x.best(what), -2);
        }
        due("25 no such what goes first", x.best(3), -1);
        due("26 none can", x.often(3), -2);
        due("27 none can", x.edge(), -2);
    }

    private static void bestWalkers() {
        SlowPace x = Scene.level(3, 2, "v30-n(1=1)");
        x.plan(0);
        due("25 three", x.best(-1), 46);
        x.walker(0, 50);
        due("25 four", x.best(-1), 48);
        due("25 four, piece 1", x.best(1), 0);
        due("26 four", x.often(0), 48);
        due("27 four", x.edge(), 0);
        for (int n = 5; n <= 6; n++) {
            x.walker(0, 50);
            for (int what = -1; what < 2; what++) {
                due("25 none is told of " + n, x.best(what), -2);
            }
            due("25 no such what goes first", x.best(2), -1);
            due("26 none of " + n, x.often(0), -2);
            due("26 none of " + n, x.often(3), -2);
            due("26 no such number goes first", x.often(4), -1);
            due("27 none of " + n, x.edge(), -2);
        }
        due("23 a march can be told", Told.march(x, 0, 0), true);
        due("23 and run", x.ran(0), 50);
        SlowPace five = Scene.level(5, 0, "v30(1=1)");
        five.plan(0);
        due("25 no pieces go first", five.best(-1), -1);
        due("26 no pieces go first", five.often(0), -1);
        due("27 no pieces go first", five.edge(), -1);
    }

    private static void bestNobody() {
        SlowPace x = Scene.level(0, 2, "v60(1=1)");
        for (int what = -1; what < 2; what++) {
            due("25 no walkers, no plan, what " + what, x.best(what), -1);
        }
        due("26 no walkers, no plan", x.often(0), -1);
        due("27 no walkers, no plan", x.edge(), -1);
        x.plan(0);
        for (int what = -1; what < 2; what++) {
            due("25 no walkers, what " + what, x.best(what), -1);
        }
        due("26 no walkers", x.often(3), -1);
        due("27 no walkers", x.edge(), -1);
        x.walker(0, 50);
        due("25 one has come", x.best(-1), 20);
        SlowPace y = Scene.level(1, 0, "v60(1=1)");
        y.plan(0);
        due("25 no pieces", y.best(-1), -1);
        due("25 no piece 0", y.best(0), -1);
        due("26 no pieces", y.often(0), -1);
        due("27 no pieces", y.edge(), -1);
    }

    private static SlowPace resting(String text) {
        SlowPace x = Scene.level(1, 1, text);
        x.piece(5, 0);
        x.plan(0);
        return x;
    }

    private static void bestRests() {
        SlowPace x = resting("v30(t>0);v43(1=1);g5(i=0);r5(1=1)");
        due("25 100, or 30 and 70", x.best(-1), 14 + 100);
        due("25 of like ones without a rest", x.best(1), 0);
        x = resting("v30(t>0);v44(1=1);g5(i=0);r5(1=1)");
        due("25 100, or 30 and 69", x.best(-1), 14 + 99);
        due("25 a rest", x.best(1), 6);
        due("25 none at first", x.best(0), 0);
        x = resting("v10(t>2);v30(t>0);v60(1=1);g5(i=0);r3(1=1)");
        due("25 300, 30 + 100 or 60 + 50", x.best(-1), 10 + 110);
        due("25 two rests", x.best(1), 12);
        x = resting("v60(t<3);g5(i=0);r1(1=1)");
        due("25 three rests would be needed", x.best(-1), -2);
        x = resting("v60(t<4);g5(i=0);r1(1=1)");
        due("25 two rests are needed", x.best(-1), 10 + 60 + 50);
        due("25 two", x.best(1), 12);
        x = Scene.level(1, 3, "v60(t<1);v20(t=1&i=1);v30(t=1);g1(i<1);r1(1=1)");
        x.plan(2);
        due("25 30 for nothing, or 20 and 10", x.best(-1), 10 + 30 + 20);
        due("25 no rest", x.best(1), 2);
    }

    private static void bestLike() {
        SlowPace x = Scene.level(1, 3, "v6(t>0&i=2);v60(1=1);g1(i=0);r1(1=1)");
        x.plan(0);
        due("25 a rest, early or late", x.best(-1), 10 + 10 + 30 + 10);
        due("25 the least row rests late", x.best(1), 0);
        due("25 late", x.best(2), 6);
        x = Scene.laden(Scene.level(2, 3, "v60-l*w*i(1=1)"), 20);
        Told.plan(x, 3, 0);
        Told.plan(x, 1, 1);
        x.change(0);
        due("25 for nothing", x.best(-1), 30);
        due("25 while it is nothing, plan 1", x.best(0), 1);
        due("25 then 3", x.best(1), 3);
        due("25 then 3", x.best(2), 3);
        x.change(1);
        due("25 at a cost 3 from the first on", x.best(0), 3);
        due("25 as fast", x.best(-1), 30);
        Told.plan(x, 0, 0);
        due("25 of like plans the least", x.best(0), 0);
        due("25 of like plans the least", x.best(2), 0);
        Told.plan(x, 0, 1);
        due("25 a slow one instead", x.best(0), 3);
    }

    private static void bestPlans() {
        SlowPace x = Scene.laden(Scene.level(2, 3, "v60-l*w*i(1=1);v1(1=1)"), 20);
        Told.plan(x, 0, 1);
        due("25 the one plan", x.best(-1), 10 + 15 + 30);
        Told.plan(x, 5, 0);
        due("25 the other one", x.best(-1), 30);
        due("25 from the first on", x.best(0), 5);
        x.load(1, 1, 0);
        due("25 the plans fell", x.best(-1), -2);
        Told.plan(x, 2, 0, 1);
        due("25 one once more", x.best(-1), 10 + 11 + 11);
        x.walker(0, 50);
        due("25 the plan stays with a walker more", x.best(-1), 32);
        x.piece(1, 0);
        due("25 and with a piece more", x.best(-1), 32 + 11);
        due("25 the piece more", x.best(3), 2);
    }

    /** Who carries gets tired, and is slow with a load then: a rest, or the other one's turn. */
    private static void bestTired() {
        SlowPace x = Scene.laden(Scene.level(2, 2, "v60(t=0|l=0);v10(1=1);g1(l>0);r1(1=1)"), 10);
        Told.plan(x, 0, 0);
        due("25 a rest is less than 50", x.best(-1), 50);
        due("25 a rest", x.best(1), 6);
        Told.plan(x, 1, 1);
        due("25 a change of 10 is less than a rest", x.best(-1), 30);
        due("25 the least row", x.best(0), 0);
        due("25 a change", x.best(1), 1);
        x.change(30);
        due("25 a change of 30 is as good as a rest", x.best(-1), 50);
        due("25 1 is below 6", x.best(1), 1);
        x.change(31);
        due("25 a change of 31 is not", x.best(1), 6);
        x = Scene.laden(Scene.level(4, 5, "v60(t=0|l=0);v10(1=1);g5(l>0)"), 10);
        int[] row = {5, 3, 4, 2};
        for (int k = 0; k < 4; k++) {
            Told.plan(x, row[k], k);
        }
        due("25 four turns, the last one tired", x.best(-1), 50 + 30 + 50);
        int[] least = {2, 2, 3, 4, 5};
        x.change(0);
        due("25 at no cost", x.best(-1), 100);
        for (int piece = 0; piece < 5; piece++) {
            due("25 turn " + piece, x.best(piece), least[piece]);
        }
    }

    /** A rest by which one walker alone is less tired, each by his own. */
    private static void bestEased() {
        for (int w = 0; w < 4; w++) {
            SlowPace x = Scene.level(4, 2, "v60-t*10(1=1);g5(w=" + w + "&i=0);r3(w=" + w + ")");
            x.plan(0);
            due("25 walker " + w + " rests once or twice", x.best(-1), 10 + 30 + 15);
            due("25 once", x.best(1), 6);
            Told.text(x, "v60-t*10(1=1);g5(w=" + w + "&i=0);r3(!w=" + w + ")");
            due("25 walker " + w + " is not less tired", x.best(-1), 10 + 60);
            due("25 no rest", x.best(1), 0);
        }
        SlowPace x = Scene.level(4, 2, "v60-t*11(1=1);g5-w(i=0);r5-w(1=1)");
        x.plan(0);
        due("25 all by their own", x.best(-1), 10 + 30 + 10);
        Told.text(x, "v60-t*10(1=1);g5(i=0);r5-w(1=1)");
        due("25 as tired, but not as rested", x.best(-1), 10 + 30 + 20);
        x = Scene.level(4, 3, "v60(i=0|t<2);v10(1=1);g5-w*5(i=0);rw+1(1=1);g5(w=1)");
        x.plan(0);
        due("25 5, 0, 0, 0 and rests of 1, 2, 3, 4", x.best(-1), 10 + 60 + 60);
        due("25 no rest is of use", x.best(1), 0);
    }

    /** As many plans, pieces and ways to be tired as there can be. */
    private static void bestMany() {
        SlowPace x = Scene.laden(Scene.level(4, 10, "v60(1=1);g1(l>0);g5(i%5=4);r1(t>3);r2(1=1)"), 1, 2, 4, 8);
        int[][] plans = {{0, 1, 2, 3}, {0, 0, 0, 0}, {1, 1, 1, 1}, {2, 2, 2, 2}, {3, 3, 3, 3}, {0, 0, 1, 1}};
        for (int k = 0; k < 6; k++) {
            Told.plan(x, k, plans[k]);
        }
        due("25 all alike", x.best(-1), 100);
        for (int piece = 0; piece < 10; piece++) {
            due("25 the least row", x.best(piece), 0);
        }
        due("26 three", x.often(3), 100);
        due("27 none gains", x.edge(), 0);
        x.change(0);
        Told.text(x, "v60(i%3=0&l<15|i%3=1&w=3|i%3=2&w=0|l=0);v59(1=1);g1(l>0);g5(1=1);r5(1=1)");
        due("25 each piece its plan", x.best(-1), 100);
        due("26 three at no cost", x.often(3), 100 + 4);
        due("26 none", x.often(0), 100 + 6);
        due("27 a minute", x.edge(), 1);
    }

    /** Ahead of the last piece four walkers can be tired in all 1296 ways; quick is one of them. */
    private static void bestAllTired() {
        SlowPace x = Scene.laden(Scene.level(4, 10, "v60(i<9|t=5);v30(1=1);gl(w=i&w<3);gl%2(w=3&i>2)"),
                1, 2, 2, 1, 2, 2, 1, 2, 2);
        int[][] own = {{3, 3, 3}, {0, 3, 3}, {3, 0, 3}, {0, 0, 3}, {3, 0, 0}, {0, 0, 0}};
        for (int k = 0; k < 6; k++) {
            int[] plan = new int[9];
            for (int load = 0; load < 9; load++) {
                plan[load] = own[k][load % 3] == 3 ? 3 : load / 3;
            }
            due("21 plan " + k, Told.plan(x, k, plan), true);
        }
        x.change(3);
        due("25 all are 5 tired", x.best(-1), 103);
        int[] row = {5, 5, 5, 0, 0, 0, 0, 0, 0, 0};
        for (int piece = 0; piece < 10; piece++) {
            due("25 by sign " + row[piece], x.best(piece), row[piece]);
        }
        due("26 with one change", x.often(1), 103);
        due("26 without", x.often(0), 110);
        due("27 ten minutes by one change", x.edge(), 10);
        x.change(10);
        due("25 at the edge", x.best(-1), 110);
        due("25 the least row", x.best(0), 0);
    }

    /** Walker 0 is quick on even pieces with the load, walker 1 on odd ones. */
    private static SlowPace odd(int pieces, int slow) {
        SlowPace x = Scene.laden(Scene.level(2, pieces, "v60(l=0|w=i%2);v" + slow + "(1=1)"), 1);
        Told.plan(x, 0, 0);
        Told.plan(x, 1, 1);
        return x;
    }

    private static void often() {
        SlowPace x = odd(6, 20);
        int[] none = {-1, 4, 5, LOWEST, HIGHEST};
        for (int changes : none) {
            due("26 often(" + changes + ")", x.often(changes), -1);
        }
        x.change(0);
        due("26 none: three quick ones of six", x.often(0), 3 * 10 + 3 * 30);
        due("26 one: four", x.often(1), 4 * 10 + 2 * 30);
        due("26 two: four still", x.often(2), 4 * 10 + 2 * 30);
        due("26 three: five", x.often(3), 5 * 10 + 30);
        due("25 five: all", x.best(-1), 60);
        x.change(19);
        due("26 none at 19", x.often(0), 120);
        due("26 one at 19", x.often(1), 119);
        due("26 one, though three may be", x.often(3), 119);
        x.change(20);
        due("26 one at 20 does not pay", x.often(3), 120);
        x.change(3);
        due("26 one at 3", x.often(2), 103);
        due("26 three at 3", x.often(3), 89);
        due("25 five at 3", x.best(-1), 75);
        x.change(120);
        for (int changes = 0; changes < 4; changes++) {
            due("26 none pays at 120", x.often(changes), 120);
        }
    }

    private static void edge() {
        SlowPace x = odd(2, 12);
        due("27 60 against 20", x.edge(), 40);
        x.change(40);
        due("27 at it no march with one is of fewer", x.best(-1), 60);
        due("27 without one", x.best(1), 0);
        x.change(39);
        due("27 below it there is one", x.best(-1), 59);
        due("27 with one", x.best(1), 1);
        due("27 it does not go by what a change costs", x.edge(), 40);
        x = odd(4, 12);
        due("27 120, or 40 and three", x.edge(), 40);
        x = Scene.laden(Scene.level(2, 2, "v60(l=0|w=i%2);v12(1=1)"), 1);
        Told.plan(x, 0, 0);
        Told.plan(x, 5, 1);
        due("27 from plan 0 to 5", x.edge(), 40);
        x = Scene.laden(Scene.level(2, 2, "v60(l=0|w=i%2);v12(1=1)"), 1);
        Told.plan(x, 5, 0);
        Told.plan(x, 0, 1);
        due("27 from plan 5 to 0", x.edge(), 40);
        x = odd(1, 12);
        due("27 on one piece there is no change", x.edge(), 0);
        x = Scene.laden(Scene.level(2, 3, "v60(1=1)"), 9);
        Told.plan(x, 0, 0);
        Told.plan(x, 1, 1);
        due("27 as many minutes are not fewer", x.edge(), 0);
        Told.text(x, "v60(l=0|w=0&i<2|w=1&i=2);v55(1=1)");
        due("27 one minute", x.edge(), 1);
        Told.text(x, "v60(l=0|w=0&i=0|w=1&i=1|w=0&i=2);v50(1=1)");
        due("27 two minutes, two changes", x.edge(), 1);
        Told.text(x, "v60(l=0|w=0&i=0|w=1&i=1|w=0&i=2);v45(1=1)");
        due("27 four minutes, two changes", x.edge(), 2);
        Told.text(x, "v60(l=0|w=0&i=0|w=1&i=1|w=0&i=2);v47(1=1)");
        due("27 three minutes, two changes: rounded up", x.edge(), 2);
    }

    private static void edgeBounds() {
        SlowPace x = odd(2, 5);
        x.change(0);
        due("27 120 against 10 and 10", x.often(0), 130);
        due("27 110", x.edge(), 110);
        x = Scene.laden(Scene.level(2, 1, "v60(l=0|w=i%2);v30(1=1)"), 1);
        x.piece(6, 0);
        Told.plan(x, 0, 0);
        Told.plan(x, 1, 1);
        due("27 70 against 80", x.edge(), 10);
        Told.text(x, "v60(l=0|w=i);v20(w=1);v20(1=1)");
        due("27 90 against 70", x.edge(), 20);
        String quick = "v60(l=0|w=0&i=0|w=1&i=1);";
        int[][] saved = {{6, 20, 120}, {7, 22, -2}, {6, 19, -2}, {6, 10, -2}, {5, 18, 117}};
        for (int[] row : saved) {
            x = Scene.laden(Scene.level(2, 0, quick + "v" + row[1] + "(1=1)"), 1);
            x.piece(row[0], 0);
            x.piece(row[0], 0);
            Told.plan(x, 0, 0);
            Told.plan(x, 1, 1);
            due("27 " + row[0] + " slow miles at " + row[1], x.edge(), row[2]);
        }
        Told.text(x, "v60(l=0|w=0&i=0|w=1&i=1)");
        due("27 none without a change", x.edge(), -2);
        due("26 none without a change", x.often(0), -2);
        due("26 but with one", x.often(1), 110);
    }

    private static void bandsSets() {
        SlowPace x = Scene.level(3, 1, "v60(1=1)");
        int[][] refused = {{0, 1, 0}, {1, 0, 0}, {0, 0, 0}, {1, 1, 0}, {3, 1, 0}, {1, 3, 0}, {7, 7, 0}, {3, 6, 0},
            {8, 1, 0}, {1, 8, 0}, {9, 2, 0}, {-1, 1, 0}, {1, -1, 0}, {-8, 1, 0}, {LOWEST, 1, 0}, {1, LOWEST, 0},
            {HIGHEST, 0, 0}, {1, 2, -1}, {1, 2, 2}, {1, 2, LOWEST}, {1, 2, HIGHEST}};
        for (int[] of : refused) {
            due("28 bands(" + of[0] + ", " + of[1] + ", " + of[2] + ")", x.bands(of[0], of[1], of[2]), -1);
        }
        int[][] fine = {{1, 2}, {1, 4}, {4, 1}, {4, 3}, {3, 4}, {6, 1}, {1, 6}, {2, 5}};
        for (int[] of : fine) {
            due("28 bands(" + of[0] + ", " + of[1] + ")", x.bands(of[0], of[1], 0), 5);
        }
        SlowPace six = Scene.level(6, 1, "v60(1=1)");
        due("28 the last alone", six.bands(32, 31, 0), 5);
        due("28 a seventh", six.bands(64, 31, 0), -1);
        due("28 a seventh", six.bands(31, 64, 0), -1);
        due("28 one walker", Scene.level(1, 1, "v60(1=1)").bands(1, 2, 0), -1);
        due("28 no pieces", Scene.level(2, 0, "v60(1=1)").bands(1, 2, 0), -1);
        due("28 no walkers", Scene.level(0, 1, "v60(1=1)").bands(1, 2, 0), -1);
    }

    private static void meet(String text, int minute, int tenths) {
        SlowPace x = Scene.level(2, 1, text);
        due("28 " + text, x.bands(1, 2, 0), minute);
        due("28 " + text + ", the first", x.bands(1, 2, 1), tenths);
    }

    private static void bandsMinutes() {
        meet("v60(1=1)", 5, 5);
        meet("v59(1=1)", 6, 5);
        meet("v30(1=1)", 10, 5);
        meet("v31(1=1)", 10, 5);
        meet("v1(1=1)", 300, 5);
        meet("v60-w*59(1=1)", 10, 10);
        meet("v1+w*59(1=1)", 10, 0);
        meet("v60-w*53(1=1)", 9, 9);
        meet("v60-w*54(1=1)", 10, 10);
        meet("v55-w*54(1=1)", 11, 10);
        SlowPace x = Scene.level(2, 1, "v60(1=1)");
        x.lame(0, true);
        due("28 the first is lame", x.bands(1, 2, 0), 7);
        due("28 3 and 7", x.bands(1, 2, 1), 3);
        due("28 the second is lame", x.bands(2, 1, 1), 7);
        x = Scene.laden(Scene.level(2, 1, "v60-l-t(1=1);g5(1=1)"), 50);
        Told.plan(x, 0, 0);
        Told.march(x, 0);
        due("28 with nothing, not tired", x.bands(1, 2, 0), 5);
    }

    private static void bandsPieces() {
        SlowPace x = Scene.level(2, 2, "v31(i=0);v60(1=1)");
        due("28 8, and 10 with 3 of the next piece", x.bands(1, 2, 0), 16);
        due("28 the first is in its own piece", x.bands(1, 2, 1), 8);
        due("28 the other two go alike", x.bands(2, 1, 0), 16);
        Told.text(x, "v31(w=0);v7(1=1)");
        due("28 20 minutes for the first piece, then the next", x.bands(1, 2, 0), 34);
        due("28 at 20 the next begins", x.bands(1, 2, 1), 17);
        x = Scene.level(2, 1, "v60(w=0&i=0);v30(w=0&i=1);v20(w=0&i=2);v1(1=1)");
        x.piece(2, 0);
        x.piece(4, 0);
        due("28 the first is in its third piece", x.bands(1, 2, 0), 164);
        due("28 one mile, two, and 38 tenths of the third", x.bands(1, 2, 1), 68);
        due("28 the second from the last on", x.bands(2, 1, 0), 168);
        due("28 the other one's part", x.bands(2, 1, 1), 2);
        Told.text(x, "vn*10(1=1)");
        due("28 n tells all walkers", x.bands(1, 2, 0), 105);
        x = new SlowPace();
        x.walker(0, 50);
        x.walker(0, 50);
        x.piece(1, 9);
        x.piece(1, -9);
        Told.text(x, "v30+h(1=1)");
        due("28 both at 39 first: the slope with the other sign", x.bands(1, 2, 0), 16);
        due("28 ten each", x.bands(1, 2, 1), 10);
        Told.text(x, "v30-h(1=1)");
        due("28 both at 21 first", x.bands(1, 2, 0), 29);
        Told.text(x, "v30(h>0|i=1&h<0);v20(w=0)");
        due("28 the second can't go on piece 0", x.bands(1, 2, 0), -2);
        Told.text(x, "v30(h>0|i=0&h<0)");
        due("28 the first can't go on piece 1", x.bands(1, 2, 0), -2);
        due("28 however far that is", x.bands(1, 2, 1), -2);
        Told.text(x, "v1(1=1)");
        due("28 1 is enough", x.bands(1, 2, 0), 600);
        Told.text(x, "v60-w*59(1=1)");
        due("28 the first goes nearly all", x.bands(1, 2, 1), 20);
        due("28 no such what goes first", x.bands(1, 2, 3), -1);
    }

    private static void kettle() {
        SlowPace x = Scene.level(3, 3, "v60(1=1)");
        x.piece(3, 0);
        x.load(1, -1, 1);
        x.load(1, 2, 0);
        int[] none = {0, 1, 2, -1, 8, 9, LOWEST, HIGHEST};
        for (int load : none) {
            due("29 none is told, load " + load, x.kettle(load), -1);
        }
        Told.plan(x, 0, 0, 2);
        Told.plan(x, 1, 1, 2);
        Told.plan(x, 2, 2, 2);
        int[][] rows = {{0, 0, 0, 1}, {0, 1, 1, 2}, {2, 1, 0, 0}, {1, 1, 1, 0}, {2, 2, 2, 1}, {1, 14, 7, 8}};
        int[] who = {0, 2, 0, 0, 1, 2};
        for (int i = 0; i < rows.length; i++) {
            Told.march(x, rows[i]);
            due("29 row " + i, x.kettle(0), who[i]);
            due("29 the owner's, row " + i, x.kettle(1), 2);
        }
        for (int i = 2; i < none.length; i++) {
            due("29 no load " + none[i], x.kettle(none[i]), -1);
        }
        Told.march(x, 1, 2, 2, 0);
        Told.text(x, "v60(i<3)");
        due("29 ahead of where it is spent: two against one", x.kettle(0), 2);
        Told.text(x, "v60(i<2)");
        due("29 one each: the lowest", x.kettle(0), 1);
        Told.text(x, "v60(i<1)");
        due("29 one alone", x.kettle(0), 1);
        Told.text(x, "v60(i>0)");
        due("29 nobody did", x.kettle(0), -2);
        due("29 no such one goes first", x.kettle(2), -1);
    }

    private static void checkLengths() {
        SlowPace x = Scene.level(1, 10, "v60(1=1)");
        x.plan(0);
        due("30 none is told", x.check(0), -2);
        Told.bytes(x, 0);
        due("30 none is told", x.check(1), -2);
        due("30 the tape stays", x.count(4), 20);
        x.text(1);
        Told.march(x, 0, 0, 0, 0, 0, 0, 0, 0, 0, 0);
        int[] ten = {10, 10, 10, 10, 10, 10, 10, 10, 10, 10};
        due("30 all right", Told.check(x, ten), -1);
        due("30 empty then", x.count(4), 0);
        due("30 nothing on the tape", x.check(1), -2);
        due("30 none: the first is lacking", x.check(0), 0);
        Told.bytes(x, 0, 0, 0, 10, 0, 0, 0, 10, 0, 0, 0, 10, 0, 0, 0, 10, 0, 0, 0, 10);
        int[] tooMany = {6, 7, 10, 55, HIGHEST, LOWEST, -1, 1 << 30, 1 << 29, (1 << 30) + 1};
        for (int n : tooMany) {
            due("30 check(" + n + ") of 20 bytes", x.check(n), -2);
            due("30 the tape stays", x.count(4), 20);
        }
        due("30 five are right, then some are lacking", x.check(5), 5);
        due("30 empty then", x.count(4), 0);
        for (int i = 0; i < 11; i++) {
            Told.bytes(x, 0, 0, 0, 10, 0, 0, 0, 10, 0, 0, 0, 10, 0, 0, 0, 10, 0, 0, 0, 10);
        }
        due("30 56 are not there", x.check(56), -2);
        due("30 the tape stays", x.count(4), 220);
        due("30 55: the eleventh is none of its", x.check(55), 10);
        due("30 empty then", x.count(4), 0);
        due("30 nine of ten", Told.check(x, 10, 10, 10, 10, 10, 10, 10, 10, 10), 9);
        due("30 eleven", Told.check(x, 10, 10, 10, 10, 10, 10, 10, 10, 10, 10, 10), 10);
    }

    private static void checkNumbers() {
        SlowPace x = new SlowPace();
        x.walker(0, 50);
        for (int i = 0; i < 3; i++) {
            x.piece(20, 0);
        }
        Told.text(x, "v1(1=1)");
        x.plan(0);
        x.plan(1);
        Told.march(x, 0, 13, 6);
        int[] right = {12000, 12070, 12040};
        due("30 with rests and changes", Told.check(x, right), -1);
        int[] wrong = {1, -1, 1 << 8, 1 << 16, 1 << 24, 1 << 31, -256, 30, -30};
        for (int i = 0; i < 3; i++) {
            for (int by : wrong) {
                int[] told = right.clone();
                told[i] += by;
                due("30 number " + i + " is not so by " + by, Told.check(x, told), i);
                told[2] = 0;
                due("30 the first one that is not so", Told.check(x, told), i);
            }
        }
        due("30 the first is wrong, the others are lacking", Told.check(x, 1), 0);
        due("30 the second is lacking", Told.check(x, 12000), 1);
        due("30 the fourth is one too many", Told.check(x, 12000, 12070, 12040, 0), 3);
        due("30 but the third is not so", Told.check(x, 12000, 12070, 12041, 0), 2);
        x.change(0);
        due("30 as a change costs now", Told.check(x, right), 1);
        due("30 as a change costs now", Told.check(x, 12000, 12060, 12030), -1);
        due("30 the march stays", x.count(7), 1);
    }

    private static void checkSpent() {
        SlowPace x = Scene.level(1, 3, "v60(i<2)");
        x.plan(0);
        Told.march(x, 0, 6, 12);
        due("30 ahead of where it is spent", Told.check(x, 10, 40), -1);
        due("30 not the rests ahead of it", Told.check(x, 10, 40, 60), 2);
        due("30 one lacking", Told.check(x, 10), 1);
        Told.text(x, "v60(i>0)");
        due("30 spent at the first: nothing is right", x.check(0), -1);
        due("30 and a number is not", Told.check(x, 0), 0);
    }

    private static void count() {
        SlowPace x = Scene.level(1, 10, "v60(1=1);g1(1=1)");
        x.load(120, -1, 20);
        x.load(120, 0, 0);
        int[] all = {1, 2, 10, 2, 0, 10, 0, 0, -1, -1, 240, 220, 200, 180, 160, 140, 120, 120, 120, 120, -1, -1};
        for (int what = 0; what < all.length; what++) {
            due("31 count(" + what + ")", x.count(what), all[what]);
        }
        int[] none = {-1, -10, 100, LOWEST, HIGHEST, LOWEST + 10, HIGHEST - 10};
        for (int what : none) {
            due("31 count(" + what + ")", x.count(what), -1);
        }
        SlowPace y = Scene.level(0, 1, "v60(1=1)");
        due("31 no loads: 0 pounds", y.count(10), 0);
        due("31 no piece 1", y.count(11), -1);
        due("31 no plans", y.count(6), 0);
        y.plan(5);
        y.plan(0);
        due("31 bits of the plans", y.count(6), 33);
        y.walker(0, 50);
        Told.march(y, 5);
        due("31 a march", y.count(7), 1);
        y.piece(1, 0);
        due("31 none", y.count(7), 0);
        due("31 its pounds", y.count(11), 0);
    }
}
