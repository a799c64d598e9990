import java.util.ArrayList;
import java.util.HashMap;
import java.util.List;
import java.util.Map;

/** The document once more, in its plainest form: every row, every march and every minute is gone through. */
final class PlainBand {
    private static final int NEVER = 1000000000;

    private record Walker(int knee, int weight) { }

    private record Load(int weight, int owner, int food) { }

    private record Piece(int miles, int slope) { }

    private final List<Walker> walkers = new ArrayList<>();
    private final List<Load> loads = new ArrayList<>();
    private final List<Piece> pieces = new ArrayList<>();
    private final List<Integer> tape = new ArrayList<>();
    private final boolean[] lame = new boolean[6];
    private final int[][] plans = new int[6][];
    private PlainText text = new PlainText("");
    private int[] march;
    private int change = 10;

    int walker(int knee, int weight) {
        if (knee < 0 || knee > 9 || weight < 20 || weight > 250 || walkers.size() == 6) {
            return -1;
        }
        walkers.add(new Walker(knee, weight));
        march = null;
        return walkers.size() - 1;
    }

    int load(int weight, int owner, int food) {
        if (weight < 1 || weight > 120 || owner < -1 || owner >= walkers.size() || food < 0 || food > 20
                || loads.size() == 9) {
            return -1;
        }
        loads.add(new Load(weight, owner, food));
        java.util.Arrays.fill(plans, null);
        march = null;
        return loads.size() - 1;
    }

    int piece(int miles, int slope) {
        if (miles < 1 || miles > 20 || slope < -9 || slope > 9 || pieces.size() == 10) {
            return -1;
        }
        pieces.add(new Piece(miles, slope));
        march = null;
        return pieces.size() - 1;
    }

    boolean lame(int w, boolean is) {
        if (w < 0 || w >= walkers.size() || lame[w] == is) {
            return false;
        }
        lame[w] = is;
        return true;
    }

    boolean change(int minutes) {
        if (minutes < 0 || minutes > 120) {
            return false;
        }
        change = minutes;
        return true;
    }

    int feed(int a, int b, int c, int d, int e) {
        if (tape.size() > 200) {
            return -1;
        }
        for (int four : new int[] {a, b, c, d, e}) {
            for (int i = 3; i >= 0; i--) {
                tape.add(four >> 8 * i & 255);
            }
        }
        return tape.size();
    }

    int text(int n) {
        if (n < 1 || n > 200 || n > tape.size()) {
            return -1;
        }
        StringBuilder signs = new StringBuilder();
        for (int i = 0; i < n; i++) {
            signs.append((char) (int) tape.get(i));
        }
        tape.clear();
        int fault = PlainText.fault(signs.toString());
        if (fault != 0) {
            return fault;
        }
        text = new PlainText(signs.toString());
        return text.clauses;
    }

    private int paceOf(int w, int pounds, int tired, int piece, int way) {
        Walker walker = walkers.get(w);
        Piece at = pieces.get(piece);
        int pace = text.value('v', 0, 60, w, walker.knee, walker.weight, pounds, tired, at.slope * way, at.miles,
                piece, walkers.size(), 0);
        return lame[w] ? pace / 2 : pace;
    }

    private int tiring(int w, int pounds, int tired, int piece, int minutes) {
        Walker walker = walkers.get(w);
        Piece at = pieces.get(piece);
        int more = text.value('g', -5, 5, w, walker.knee, walker.weight, pounds, tired, at.slope, at.miles, piece,
                walkers.size(), minutes);
        return Math.max(0, Math.min(5, tired + more));
    }

    private int resting(int w, int tired, int piece) {
        Walker walker = walkers.get(w);
        int less = text.value('r', 0, 5, w, walker.knee, walker.weight, 0, tired, 0, 0, piece, walkers.size(), 0);
        return Math.max(0, tired - less);
    }

    private boolean noPiece(int piece) {
        return piece < 0 || piece >= pieces.size();
    }

    private boolean nowhere(int piece, int tiredness) {
        return walkers.isEmpty() || noPiece(piece) || tiredness < 0 || tiredness >= 46656;
    }

    private static int digit(int tiredness, int w) {
        for (int i = 0; i < w; i++) {
            tiredness /= 6;
        }
        return tiredness % 6;
    }

    private int minutes(int piece, int pace) {
        if (pace == 0) {
            return NEVER;
        }
        int way = 600 * pieces.get(piece).miles;
        return way % pace == 0 ? way / pace : way / pace + 1;
    }

    int pace(int w, int pounds, int tired, int piece) {
        if (w < 0 || w >= walkers.size() || pounds < 0 || pounds > 1000 || tired < 0 || tired > 5 || noPiece(piece)) {
            return -1;
        }
        return paceOf(w, pounds, tired, piece, 1);
    }

    private int canCarry(int w, int p, int tired, int piece) {
        int pounds = 0;
        while (pounds <= 400 && paceOf(w, pounds, tired, piece, 1) >= p) {
            pounds++;
        }
        return pounds - 1;
    }

    int carry(int w, int p, int tired, int piece) {
        if (w < 0 || w >= walkers.size() || p < 1 || p > 60 || tired < 0 || tired > 5 || noPiece(piece)) {
            return -2;
        }
        return canCarry(w, p, tired, piece);
    }

    private int[][] caps(int piece, int tiredness) {
        int[][] caps = new int[walkers.size()][61];
        for (int w = 0; w < walkers.size(); w++) {
            int low = 60;
            java.util.Arrays.fill(caps[w], -1);
            for (int pounds = 0; pounds <= 400; pounds++) {
                low = Math.min(low, paceOf(w, pounds, digit(tiredness, w), piece, 1));
                for (int p = 1; p <= low; p++) {
                    caps[w][p] = pounds;
                }
            }
        }
        return caps;
    }

    /** The pace and what is spare at it. */
    private int[] inParts(int pounds, int piece, int tiredness) {
        int[][] caps = caps(piece, tiredness);
        for (int p = 60; p > 0; p--) {
            int sum = 0;
            boolean all = true;
            for (int w = 0; w < walkers.size(); w++) {
                all &= caps[w][p] >= 0;
                sum += caps[w][p];
            }
            if (all && sum >= pounds) {
                return new int[] {p, sum - pounds};
            }
        }
        return new int[] {0, 0};
    }

    int parts(int pounds, int piece, int tiredness, int what) {
        if (pounds < 0 || pounds > 2400 || what < 0 || what > 2 || nowhere(piece, tiredness)) {
            return -1;
        }
        int[] shared = inParts(pounds, piece, tiredness);
        if (what == 2) {
            return shared[0] == 0 ? -2 : minutes(piece, shared[0]);
        }
        return shared[what];
    }

    private int heft(int load, int piece) {
        return Math.max(0, loads.get(load).weight - piece * loads.get(load).food);
    }

    private int allHeft(int piece) {
        int sum = 0;
        for (int i = 0; i < loads.size(); i++) {
            sum += heft(i, piece);
        }
        return sum;
    }

    /** A scene of WHOLE: who goes, what there is, whose it is, who is quicker by 1. */
    private final class Scene {
        final List<Integer> those = new ArrayList<>();
        final List<Integer> hefts = new ArrayList<>();
        final List<Integer> owners = new ArrayList<>();
        final int[][] caps;
        int[] row;

        Scene(int piece, int tiredness, int quicker) {
            caps = caps(piece, tiredness);
            for (int w = 0; w < walkers.size(); w++) {
                those.add(w);
            }
            for (int i = 0; i < loads.size(); i++) {
                hefts.add(heft(i, piece));
                owners.add(loads.get(i).owner);
            }
            if (quicker >= 0) {
                int[] cap = caps[quicker];
                for (int p = 60; p > 1; p--) {
                    cap[p] = cap[p - 1];
                }
                cap[1] = 400;
            }
        }

        void without(int w) {
            those.remove(Integer.valueOf(w));
            for (int i = 0; i < owners.size(); i++) {
                if (owners.get(i) == w) {
                    owners.set(i, -1);
                }
            }
        }

        int pace() {
            best = 0;
            row = new int[hefts.size()];
            java.util.Arrays.fill(row, -2);
            go(0, new int[hefts.size()], new int[6]);
            return best;
        }

        private int best;

        private void go(int i, int[] way, int[] sums) {
            if (i == way.length) {
                while (best < 60 && all(best + 1, sums)) {
                    best++;
                    row = way.clone();
                }
                return;
            }
            for (int w : those) {
                if (owners.get(i) < 0 || owners.get(i) == w) {
                    way[i] = w;
                    sums[w] += hefts.get(i);
                    go(i + 1, way, sums);
                    sums[w] -= hefts.get(i);
                }
            }
        }

        private boolean all(int p, int[] sums) {
            for (int w : those) {
                if (sums[w] > caps[w][p]) {
                    return false;
                }
            }
            return true;
        }
    }

    int whole(int piece, int tiredness, int what) {
        if (what != -1 && what != 9 && (what < 0 || what >= loads.size()) || nowhere(piece, tiredness)) {
            return -3;
        }
        Scene scene = new Scene(piece, tiredness, -1);
        int pace = scene.pace();
        if (what == -1) {
            return pace;
        }
        if (pace == 0) {
            return -2;
        }
        return what == 9 ? minutes(piece, pace) : scene.row[what];
    }

    int wont(int piece, int tiredness) {
        if (nowhere(piece, tiredness)) {
            return -1000000;
        }
        Scene scene = new Scene(piece, tiredness, -1);
        int owned = scene.pace();
        java.util.Collections.fill(scene.owners, -1);
        int free = scene.pace();
        return owned == 0 || free == 0 ? -1000000 : minutes(piece, owned) - minutes(piece, free);
    }

    int who(int piece, int tiredness, int what) {
        if (what < 0 || what > 1 || nowhere(piece, tiredness)) {
            return -2;
        }
        int pace = new Scene(piece, tiredness, -1).pace();
        int by = 0;
        int who = -1;
        for (int w = 0; w < walkers.size(); w++) {
            int more = new Scene(piece, tiredness, w).pace() - pace;
            if (more > by) {
                by = more;
                who = w;
            }
        }
        return what == 0 ? who : by;
    }

    int pounds(int load, int piece, int tiredness) {
        if (load < 0 || load >= loads.size() || nowhere(piece, tiredness)) {
            return -1;
        }
        Scene scene = new Scene(piece, tiredness, -1);
        int pace = scene.pace();
        int all = scene.hefts.get(load);
        for (int less = 1; less <= all; less++) {
            scene.hefts.set(load, all - less);
            if (scene.pace() > pace) {
                return less;
            }
        }
        return -2;
    }

    int ahead(int piece, int tiredness, int cook, int what) {
        if (cook < 0 || cook > 600 || what < 0 || what > 2 || walkers.size() < 3 || nowhere(piece, tiredness)) {
            return -1;
        }
        int[] best = {NEVER, -2, -2};
        for (int a = 0; a < walkers.size(); a++) {
            for (int b = a + 1; b < walkers.size(); b++) {
                Scene scene = new Scene(piece, tiredness, -1);
                scene.without(a);
                scene.without(b);
                int others = minutes(piece, scene.pace());
                int two = Math.max(minutes(piece, paceOf(a, 0, digit(tiredness, a), piece, 1)),
                        minutes(piece, paceOf(b, 0, digit(tiredness, b), piece, 1)));
                if (others < NEVER && two < NEVER && Math.max(others, two + cook) < best[0]) {
                    best = new int[] {Math.max(others, two + cook), a, b};
                }
            }
        }
        return best[0] == NEVER ? -2 : best[what];
    }

    int stages(int piece, int tiredness, int n) {
        if (n < 1 || n > 5 || nowhere(piece, tiredness)) {
            return -1;
        }
        int all = allHeft(piece);
        int pace = inParts(all / n + (all % n == 0 ? 0 : 1), piece, tiredness)[0];
        if (pace == 0) {
            return -2;
        }
        int back = 0;
        for (int w = 0; w < walkers.size(); w++) {
            back = Math.max(back, minutes(piece, paceOf(w, 0, digit(tiredness, w), piece, 1)));
        }
        return n * minutes(piece, pace) + (n - 1) * back;
    }

    int goes(int piece, int tiredness) {
        if (nowhere(piece, tiredness)) {
            return -1;
        }
        int best = -2;
        for (int n = 5; n > 0; n--) {
            int minutes = stages(piece, tiredness, n);
            if (minutes != -2 && (best == -2 || minutes <= stages(piece, tiredness, best))) {
                best = n;
            }
        }
        return best;
    }

    int carried(int piece, int tiredness, int what) {
        if (what < 0 || what > 1 || nowhere(piece, tiredness)) {
            return -3;
        }
        int least = minutes(piece, new Scene(piece, tiredness, -1).pace());
        int who = -1;
        for (int w = 0; w < walkers.size() && walkers.size() > 1; w++) {
            Scene scene = new Scene(piece, tiredness, -1);
            scene.without(w);
            scene.hefts.add(walkers.get(w).weight);
            scene.owners.add(-1);
            int minutes = minutes(piece, scene.pace());
            if (minutes < least) {
                least = minutes;
                who = w;
            }
        }
        return least == NEVER ? -2 : what == 0 ? who : least;
    }

    int mule(int most, int d, int tiredness, int what) {
        if (most < 1 || most > 500 || d < 1 || d > pieces.size() || what < 0 || what > 1 || nowhere(0, tiredness)) {
            return -1;
        }
        long least = NEVER;
        int where = -2;
        for (int s = 0; s <= pieces.size() - d; s++) {
            long sum = 0;
            for (int i = 0; i < pieces.size(); i++) {
                int off = i >= s && i < s + d ? Math.min(most, allHeft(i)) : 0;
                sum += minutes(i, inParts(allHeft(i) - off, i, tiredness)[0]);
            }
            if (sum < least) {
                least = sum;
                where = s;
            }
        }
        return where == -2 || what == 0 ? where : (int) least;
    }

    boolean plan(int k) {
        if (k < 0 || k > 5 || tape.size() < loads.size()) {
            return false;
        }
        int[] plan = new int[loads.size()];
        for (int i = 0; i < plan.length; i++) {
            plan[i] = tape.get(i);
        }
        tape.clear();
        for (int i = 0; i < plan.length; i++) {
            int owner = loads.get(i).owner;
            if (plan[i] >= walkers.size() || owner >= 0 && owner != plan[i]) {
                return false;
            }
        }
        plans[k] = plan;
        march = null;
        return true;
    }

    boolean march(int n) {
        if (n < 1 || n != pieces.size() || walkers.isEmpty() || tape.size() < n) {
            return false;
        }
        int[] row = new int[n];
        for (int i = 0; i < n; i++) {
            row[i] = tape.get(i);
        }
        tape.clear();
        for (int sign : row) {
            if (sign > 17 || plans[sign % 6] == null) {
                return false;
            }
        }
        march = row;
        return true;
    }

    private int[] burden(int plan, int piece) {
        int[] sums = new int[walkers.size()];
        for (int i = 0; i < loads.size(); i++) {
            sums[plans[plan][i]] += heft(i, piece);
        }
        return sums;
    }

    /** How a march goes: minutes by pieces, changes, who is how tired on each piece and behind the last. */
    private final class Way {
        final List<Integer> minutes = new ArrayList<>();
        final List<int[]> tired = new ArrayList<>();
        int[] now = new int[walkers.size()];
        int changes;

        /** One piece more; false: it is spent. */
        boolean go(int sign, int before) {
            int piece = minutes.size();
            int[] rested = now.clone();
            for (int rest = 0; rest < sign / 6; rest++) {
                for (int w = 0; w < rested.length; w++) {
                    rested[w] = resting(w, rested[w], piece);
                }
            }
            int[] burden = burden(sign % 6, piece);
            int pace = 60;
            for (int w = 0; w < rested.length; w++) {
                pace = Math.min(pace, paceOf(w, burden[w], rested[w], piece, 1));
            }
            if (pace == 0) {
                return false;
            }
            int walk = minutes(piece, pace);
            boolean changed = before >= 0 && before % 6 != sign % 6;
            minutes.add(walk + 30 * (sign / 6) + (changed ? change : 0));
            changes += changed ? 1 : 0;
            tired.add(rested);
            now = rested.clone();
            for (int w = 0; w < rested.length; w++) {
                now[w] = tiring(w, burden[w], rested[w], piece, walk);
            }
            return true;
        }

        int sum() {
            return minutes.stream().mapToInt(i -> i).sum();
        }
    }

    private Way run(int[] row) {
        Way way = new Way();
        for (int i = 0; i < row.length; i++) {
            if (!way.go(row[i], i == 0 ? -1 : row[i - 1])) {
                break;
            }
        }
        return way;
    }

    int ran(int what) {
        if (what < 0 || what > 3) {
            return -1;
        }
        if (march == null) {
            return -2;
        }
        Way way = run(march);
        if (what == 1) {
            int sum = 0;
            for (int w = walkers.size() - 1; w >= 0; w--) {
                sum = 6 * sum + way.now[w];
            }
            return sum;
        }
        if (what == 2) {
            return way.minutes.size() == pieces.size() ? -1 : way.minutes.size();
        }
        return what == 0 ? way.sum() : way.changes;
    }

    int gap(int piece) {
        if (march == null || noPiece(piece)) {
            return -1;
        }
        Way way = run(march);
        if (way.minutes.size() <= piece) {
            return -2;
        }
        int low = NEVER;
        int high = 0;
        int[] burden = burden(march[piece] % 6, piece);
        for (int w = 0; w < walkers.size(); w++) {
            int minutes = minutes(piece, paceOf(w, burden[w], way.tired.get(piece)[w], piece, 1));
            low = Math.min(low, minutes);
            high = Math.max(high, minutes);
        }
        return high - low;
    }

    /** The fewest minutes and the least row by numbers of changes, from all marches. */
    private final class All {
        final int[] fewest = new int[10];
        final int[][] rows = new int[10][];

        All() {
            java.util.Arrays.fill(fewest, NEVER);
            if (walkers.size() <= 4) {
                go(0, new int[pieces.size()]);
            }
        }

        private void go(int i, int[] row) {
            if (i == row.length) {
                Way way = run(row);
                if (way.minutes.size() == row.length && way.sum() < fewest[way.changes]) {
                    fewest[way.changes] = way.sum();
                    rows[way.changes] = row.clone();
                }
                return;
            }
            for (int sign = 0; sign < 18; sign++) {
                if (plans[sign % 6] != null) {
                    row[i] = sign;
                    go(i + 1, row);
                }
            }
        }
    }

    /** Where there are too many marches to go through: the fewest minutes from a piece on, from the last one back. */
    private final class Back {
        private final Map<Long, Integer> known = new HashMap<>();

        int fewest(int piece, int[] tired, int before, int left) {
            if (piece == pieces.size()) {
                return 0;
            }
            long key = (piece * 16L + left) * 32 + before + 1;
            for (int t : tired) {
                key = 6 * key + t;
            }
            Integer told = known.get(key);
            if (told != null) {
                return told;
            }
            int fewest = NEVER;
            for (int sign = 0; sign < 18 && walkers.size() <= 4; sign++) {
                fewest = Math.min(fewest, by(sign, piece, tired, before, left));
            }
            known.put(key, fewest);
            return fewest;
        }

        /** The fewest minutes if a piece is gone by a sign. */
        private int by(int sign, int piece, int[] tired, int before, int left) {
            boolean changed = before >= 0 && before != sign % 6;
            Way way = at(piece, tired);
            if (plans[sign % 6] == null || changed && left == 0 || !way.go(sign, before)) {
                return NEVER;
            }
            int more = fewest(piece + 1, way.now, sign % 6, left - (changed ? 1 : 0));
            return Math.min(NEVER, way.minutes.get(piece) + more);
        }

        private Way at(int piece, int[] tired) {
            Way way = new Way();
            for (int i = 0; i < piece; i++) {
                way.minutes.add(0);
            }
            way.now = tired;
            return way;
        }

        int fewest(int changes) {
            return fewest(0, new int[walkers.size()], -1, changes);
        }

        /** The sign of a piece in the least row. */
        int sign(int what) {
            int[] tired = new int[walkers.size()];
            int before = -1;
            for (int piece = 0; true; piece++) {
                int sign = 0;
                while (by(sign, piece, tired, before, 9) > fewest(piece, tired, before, 9)) {
                    sign++;
                }
                if (piece == what) {
                    return sign;
                }
                Way way = at(piece, tired);
                way.go(sign, before);
                tired = way.now;
                before = sign % 6;
            }
        }
    }

    private boolean many() {
        return marches() > 4000;
    }

    /** How many marches there are to go through. */
    long marches() {
        int told = 0;
        for (int[] plan : plans) {
            told += plan == null ? 0 : 1;
        }
        long all = 1;
        for (int i = 0; i < pieces.size(); i++) {
            all *= 3 * told;
        }
        return all;
    }

    int ownerOf(int load) {
        return loads.get(load).owner;
    }

    /** The minutes by pieces of the told march. */
    List<Integer> minutes() {
        return march == null ? List.of() : run(march).minutes;
    }

    int best(int what) {
        if (what != -1 && noPiece(what) || walkers.isEmpty() || pieces.isEmpty()) {
            return -1;
        }
        if (many()) {
            Back back = new Back();
            int fewest = back.fewest(9);
            return fewest == NEVER ? -2 : what == -1 ? fewest : back.sign(what);
        }
        All all = new All();
        int best = 0;
        for (int c = 1; c < 10; c++) {
            boolean less = all.fewest[c] < all.fewest[best];
            boolean like = all.fewest[c] < NEVER && all.fewest[c] == all.fewest[best];
            if (less || like && java.util.Arrays.compare(all.rows[c], all.rows[best]) < 0) {
                best = c;
            }
        }
        if (all.fewest[best] == NEVER) {
            return -2;
        }
        return what == -1 ? all.fewest[best] : all.rows[best][what];
    }

    int often(int changes) {
        if (changes < 0 || changes > 3 || walkers.isEmpty() || pieces.isEmpty()) {
            return -1;
        }
        if (many()) {
            int few = new Back().fewest(changes);
            return few == NEVER ? -2 : few;
        }
        All all = new All();
        int fewest = NEVER;
        for (int c = 0; c <= changes; c++) {
            fewest = Math.min(fewest, all.fewest[c]);
        }
        return fewest == NEVER ? -2 : fewest;
    }

    int edge() {
        if (walkers.isEmpty() || pieces.isEmpty()) {
            return -1;
        }
        int kept = change;
        change = 0;
        int[] fewest = new int[10];
        if (many()) {
            Back back = new Back();
            for (int c = 0; c < 10; c++) {
                fewest[c] = back.fewest(c);
            }
        } else {
            fewest = new All().fewest;
        }
        change = kept;
        for (int cost = 0; cost <= 120 && fewest[0] < NEVER; cost++) {
            boolean less = false;
            for (int c = 1; c < 10; c++) {
                less |= fewest[c] + c * cost < fewest[0];
            }
            if (!less) {
                return cost;
            }
        }
        return -2;
    }

    /** Tenths of a mile gone in so many minutes, by the paces in the order in which the pieces come. */
    private int gone(int[] paces, int[] order, int minute) {
        int tenths = 0;
        for (int piece : order) {
            int in = Math.min(minute, minutes(piece, paces[piece]));
            tenths += Math.min(10 * pieces.get(piece).miles, paces[piece] * in / 60);
            minute -= in;
        }
        return tenths;
    }

    private int[] bandPaces(int set, int way) {
        int[] paces = new int[pieces.size()];
        for (int piece = 0; piece < paces.length; piece++) {
            paces[piece] = 60;
            for (int w = 0; w < walkers.size(); w++) {
                if ((set & 1 << w) != 0) {
                    paces[piece] = Math.min(paces[piece], paceOf(w, 0, 0, piece, way));
                }
            }
        }
        return paces;
    }

    int bands(int a, int b, int what) {
        int all = (1 << walkers.size()) - 1;
        if (a == 0 || b == 0 || (a & ~all) != 0 || (b & ~all) != 0 || (a & b) != 0 || what < 0 || what > 1
                || pieces.isEmpty()) {
            return -1;
        }
        int[] first = bandPaces(a, 1);
        int[] second = bandPaces(b, -1);
        int miles = 0;
        int[] there = new int[pieces.size()];
        int[] back = new int[pieces.size()];
        for (int i = 0; i < there.length; i++) {
            if (first[i] == 0 || second[i] == 0) {
                return -2;
            }
            there[i] = i;
            back[i] = there.length - 1 - i;
            miles += pieces.get(i).miles;
        }
        int minute = 0;
        while (gone(first, there, minute) + gone(second, back, minute) < 10 * miles) {
            minute++;
        }
        return what == 0 ? minute : gone(first, there, minute);
    }

    int kettle(int load) {
        if (load < 0 || load >= loads.size() || march == null) {
            return -1;
        }
        int gone = run(march).minutes.size();
        int[] miles = new int[walkers.size()];
        int who = -2;
        for (int i = 0; i < gone; i++) {
            miles[plans[march[i] % 6][load]] += pieces.get(i).miles;
        }
        for (int w = walkers.size() - 1; w >= 0; w--) {
            if (miles[w] > 0 && (who == -2 || miles[w] >= miles[who])) {
                who = w;
            }
        }
        return who;
    }

    int check(int n) {
        if (march == null || n < 0 || 4L * n > tape.size()) {
            return -2;
        }
        int[] numbers = new int[n];
        for (int i = 0; i < 4 * n; i++) {
            numbers[i / 4] = numbers[i / 4] << 8 | tape.get(i);
        }
        tape.clear();
        List<Integer> minutes = run(march).minutes;
        for (int i = 0; i < Math.max(n, minutes.size()); i++) {
            if (i >= n || i >= minutes.size() || minutes.get(i) != numbers[i]) {
                return i;
            }
        }
        return -1;
    }

    int count(int what) {
        int told = 0;
        for (int k = 0; k < 6; k++) {
            told += plans[k] == null ? 0 : 1 << k;
        }
        int[] counts = {walkers.size(), loads.size(), pieces.size(), text.clauses, tape.size(), change, told,
            march == null ? 0 : 1};
        if (what >= 0 && what < 8) {
            return counts[what];
        }
        return what < 10 || noPiece(what - 10) ? -1 : allHeft(what - 10);
    }
}
