import java.util.Arrays;

/** Some go over hills with loads among them; the slowest sets the pace, and nobody is left. */
public final class SlowPace {
    public static final int NONE = -1;

    private static final int CANNOT = -2;
    private static final int NO_SUCH = -3;
    private static final int NO_WONT = -1000000;
    // Far above the minutes of any march: what can't be gone takes so long.
    private static final int NEVER = 1000000000;

    private static final int MOST_WALKERS = 6;
    private static final int MOST_LOADS = 9;
    private static final int MOST_PIECES = 10;
    private static final int MOST_PLANS = 6;
    private static final int MOST_TIRED = 5;
    private static final int TIRED_KINDS = 6;
    private static final int TIREDNESSES = 46656;
    private static final int MOST_PACE = 60;
    private static final int MOST_CARRIED = 400;
    private static final int MOST_RESTS = 2;
    private static final int REST_MINUTES = 30;
    private static final int MOST_CHANGE = 120;
    private static final int MOST_SEARCHED = 4;
    private static final int MOST_OFTEN = 3;
    // More halvings than any search between two numbers here needs.
    private static final int HALVINGS = 64;
    private static final int[] SIXES = {1, 6, 36, 216, 1296, 7776};

    private final Tape tape;
    private final Band band;
    private final Rules rules;
    private final Reader reader;
    private final Paces paces;
    private final Packing packing;
    private final Marches marches;
    private final Search search;
    private final Meeting meeting;

    public SlowPace() {
        tape = new Tape();
        band = new Band();
        rules = new Rules();
        reader = new Reader(tape);
        paces = new Paces(band, rules);
        packing = new Packing(band, paces);
        marches = new Marches(band, paces);
        search = new Search(band, paces, marches);
        meeting = new Meeting(band, paces);
    }

    public int walker(int knee, int weight) {
        boolean fine = knee >= 0 && knee <= 9 && weight >= 20 && weight <= 250;
        if (!fine || band.walkers >= MOST_WALKERS) {
            return NONE;
        }
        int w = band.walkers;
        band.knee[w] = knee;
        band.weight[w] = weight;
        band.limps[w] = false;
        band.walkers++;
        marches.marching = false;
        forget();
        return w;
    }

    public int load(int weight, int owner, int food) {
        boolean fine = weight >= 1 && weight <= 120 && food >= 0 && food <= 20;
        boolean owned = owner == NONE || band.hasWalker(owner);
        if (!fine || !owned || band.loads >= MOST_LOADS) {
            return NONE;
        }
        int load = band.loads;
        band.heft[load] = weight;
        band.owner[load] = owner;
        band.food[load] = food;
        band.loads++;
        marches.marching = false;
        marches.told = 0;
        search.known = false;
        return load;
    }

    public int piece(int miles, int slope) {
        boolean fine = miles >= 1 && miles <= 20 && slope >= -9 && slope <= 9;
        if (!fine || band.pieces >= MOST_PIECES) {
            return NONE;
        }
        int piece = band.pieces;
        band.miles[piece] = miles;
        band.slope[piece] = slope;
        band.pieces++;
        marches.marching = false;
        search.known = false;
        return piece;
    }

    public boolean lame(int w, boolean is) {
        if (!band.hasWalker(w) || band.limps[w] == is) {
            return false;
        }
        band.limps[w] = is;
        forget();
        return true;
    }

    public boolean change(int minutes) {
        if (minutes < 0 || minutes > MOST_CHANGE) {
            return false;
        }
        marches.changeMinutes = minutes;
        return true;
    }

    public int feed(int a, int b, int c, int d, int e) {
        if (tape.size + 20 > Tape.MOST) {
            return NONE;
        }
        tape.append(a);
        tape.append(b);
        tape.append(c);
        tape.append(d);
        tape.append(e);
        return tape.size;
    }

    public int text(int n) {
        if (n < 1 || n > 200 || n > tape.size) {
            return NONE;
        }
        int fault = reader.read(n);
        tape.size = 0;
        if (fault != 0) {
            return fault;
        }
        rules.take(reader.draft);
        forget();
        return rules.clauses;
    }

    public int pace(int w, int pounds, int tired, int piece) {
        boolean fine = pounds >= 0 && pounds <= 1000 && tired >= 0 && tired <= MOST_TIRED;
        if (!fine || !band.hasWalker(w) || !band.hasPiece(piece)) {
            return NONE;
        }
        return paces.paceOf(w, pounds, tired, piece);
    }

    public int carry(int w, int p, int tired, int piece) {
        boolean fine = p >= 1 && p <= MOST_PACE && tired >= 0 && tired <= MOST_TIRED;
        if (!fine || !band.hasWalker(w) || !band.hasPiece(piece)) {
            return CANNOT;
        }
        return paces.caps[paces.capsFrom(w, tired, piece) + p];
    }

    public int parts(int pounds, int piece, int tiredness, int what) {
        boolean fine = pounds >= 0 && pounds <= 2400 && what >= 0 && what <= 2;
        if (!fine || !standsOn(piece, tiredness)) {
            return NONE;
        }
        int pace = paces.sharedPace(pounds, piece, tiredness);
        if (what == 0) {
            return pace;
        }
        if (what == 1) {
            return pace == 0 ? 0 : paces.together(pace) - pounds;
        }
        return pace == 0 ? CANNOT : band.minutes(piece, pace);
    }

    public int whole(int piece, int tiredness, int what) {
        boolean fine = what == NONE || what == 9 || band.hasLoad(what);
        if (!fine || !standsOn(piece, tiredness)) {
            return NO_SUCH;
        }
        packing.begin(piece, tiredness);
        int pace = packing.greatest();
        if (what == NONE) {
            return pace;
        }
        if (pace == 0) {
            return CANNOT;
        }
        if (what == 9) {
            return band.minutes(piece, pace);
        }
        packing.settle(pace);
        return packing.row[what];
    }

    public int wont(int piece, int tiredness) {
        if (!standsOn(piece, tiredness)) {
            return NO_WONT;
        }
        packing.begin(piece, tiredness);
        int owned = band.minutes(piece, packing.greatest());
        packing.freeAll();
        int free = band.minutes(piece, packing.greatest());
        return owned == NEVER || free == NEVER ? NO_WONT : owned - free;
    }

    public int who(int piece, int tiredness, int what) {
        if (what < 0 || what > 1 || !standsOn(piece, tiredness)) {
            return CANNOT;
        }
        packing.begin(piece, tiredness);
        int pace = packing.greatest();
        int by = NONE;
        // One walker's 1 more moves the least of all by 1 at most, so the first by whom it grows is due.
        for (int w = 0; w < band.walkers && by == NONE && pace < MOST_PACE; w++) {
            packing.quicker = w;
            if (packing.fits(pace + 1)) {
                by = w;
            }
        }
        if (what == 0) {
            return by;
        }
        return by == NONE ? 0 : 1;
    }

    public int pounds(int load, int piece, int tiredness) {
        if (!band.hasLoad(load) || !standsOn(piece, tiredness)) {
            return NONE;
        }
        packing.begin(piece, tiredness);
        int next = packing.greatest() + 1;
        int all = packing.heft[load];
        packing.heft[load] = 0;
        if (next > MOST_PACE || !packing.fits(next)) {
            return CANNOT;
        }
        int low = 1;
        int high = all;
        for (int step = 0; step < HALVINGS && low < high; step++) {
            int middle = (low + high) / 2;
            packing.heft[load] = all - middle;
            if (packing.fits(next)) {
                high = middle;
            } else {
                low = middle + 1;
            }
        }
        return low;
    }

    public int ahead(int piece, int tiredness, int cook, int what) {
        boolean fine = cook >= 0 && cook <= 600 && what >= 0 && what <= 2;
        if (!fine || band.walkers < 3 || !standsOn(piece, tiredness)) {
            return NONE;
        }
        int soonest = NEVER;
        int lower = NONE;
        int higher = NONE;
        for (int a = 0; a < band.walkers; a++) {
            for (int b = a + 1; b < band.walkers; b++) {
                int minutes = minutesWithAhead(piece, tiredness, cook, a, b, soonest);
                if (minutes < soonest) {
                    soonest = minutes;
                    lower = a;
                    higher = b;
                }
            }
        }
        if (soonest == NEVER) {
            return CANNOT;
        }
        if (what == 0) {
            return soonest;
        }
        return what == 1 ? lower : higher;
    }

    public int stages(int piece, int tiredness, int n) {
        if (n < 1 || n > 5 || !standsOn(piece, tiredness)) {
            return NONE;
        }
        int minutes = minutesByStages(piece, tiredness, n);
        return minutes == NEVER ? CANNOT : minutes;
    }

    public int goes(int piece, int tiredness) {
        if (!standsOn(piece, tiredness)) {
            return NONE;
        }
        int fewest = NEVER;
        int best = CANNOT;
        for (int n = 1; n <= 5; n++) {
            int minutes = minutesByStages(piece, tiredness, n);
            if (minutes < fewest) {
                fewest = minutes;
                best = n;
            }
        }
        return best;
    }

    public int carried(int piece, int tiredness, int what) {
        if (what < 0 || what > 1 || !standsOn(piece, tiredness)) {
            return NO_SUCH;
        }
        packing.begin(piece, tiredness);
        int soonest = band.minutes(piece, packing.greatest());
        int who = NONE;
        for (int w = 0; w < band.walkers && band.walkers > 1; w++) {
            packing.begin(piece, tiredness);
            packing.leaveOut(w);
            packing.addLoad(band.weight[w]);
            int minutes = band.minutes(piece, packing.greatest());
            if (minutes < soonest) {
                soonest = minutes;
                who = w;
            }
        }
        if (soonest == NEVER) {
            return CANNOT;
        }
        return what == 0 ? who : soonest;
    }

    public int mule(int most, int d, int tiredness, int what) {
        boolean fine = most >= 1 && most <= 500 && d >= 1 && d <= band.pieces && what >= 0 && what <= 1;
        if (!fine || !standsOn(0, tiredness)) {
            return NONE;
        }
        int fewest = NEVER;
        int where = NONE;
        for (int begin = 0; begin + d <= band.pieces; begin++) {
            int minutes = minutesWithMule(most, begin, begin + d, tiredness);
            if (minutes < fewest) {
                fewest = minutes;
                where = begin;
            }
        }
        if (fewest == NEVER) {
            return CANNOT;
        }
        return what == 0 ? where : fewest;
    }

    public boolean plan(int k) {
        if (k < 0 || k >= MOST_PLANS || tape.size < band.loads) {
            return false;
        }
        boolean fine = true;
        for (int load = 0; load < band.loads; load++) {
            int w = tape.bytes[load];
            boolean owned = band.owner[load] == NONE || band.owner[load] == w;
            fine = fine && band.hasWalker(w) && owned;
        }
        tape.size = 0;
        if (fine) {
            System.arraycopy(tape.bytes, 0, marches.plans[k], 0, band.loads);
            marches.told |= 1 << k;
            marches.marching = false;
            search.known = false;
        }
        return fine;
    }

    public boolean march(int n) {
        if (n < 1 || n != band.pieces || band.walkers == 0 || tape.size < n) {
            return false;
        }
        boolean fine = true;
        for (int piece = 0; piece < n; piece++) {
            int sign = tape.bytes[piece];
            fine = fine && sign / MOST_PLANS <= MOST_RESTS && marches.isTold(sign % MOST_PLANS);
        }
        tape.size = 0;
        if (fine) {
            System.arraycopy(tape.bytes, 0, marches.row, 0, n);
            marches.marching = true;
        }
        return fine;
    }

    public int ran(int what) {
        if (what < 0 || what > 3) {
            return NONE;
        }
        if (!marches.marching) {
            return CANNOT;
        }
        marches.follow();
        if (what == 0) {
            return marches.allMinutes();
        }
        if (what == 1) {
            return marches.tiredness();
        }
        if (what == 2) {
            return marches.gone < band.pieces ? marches.gone : NONE;
        }
        return marches.changes();
    }

    public int gap(int piece) {
        if (!marches.marching || !band.hasPiece(piece)) {
            return NONE;
        }
        marches.follow();
        if (piece >= marches.gone) {
            return CANNOT;
        }
        int first = NEVER;
        int last = 0;
        int plan = marches.row[piece] % MOST_PLANS;
        for (int w = 0; w < band.walkers; w++) {
            int pounds = marches.burden(plan, w, piece);
            int pace = paces.paceOf(w, pounds, marches.tiredOn[piece][w], piece);
            int minutes = band.minutes(piece, pace);
            first = Math.min(first, minutes);
            last = Math.max(last, minutes);
        }
        return last - first;
    }

    public int best(int what) {
        boolean fine = what == NONE || band.hasPiece(what);
        if (!fine || band.walkers == 0 || band.pieces == 0) {
            return NONE;
        }
        if (band.walkers > MOST_SEARCHED) {
            return CANNOT;
        }
        search.solve(marches.changeMinutes, NONE);
        if (search.minutes() == NEVER) {
            return CANNOT;
        }
        return what == NONE ? search.minutes() : search.signAt(what);
    }

    public int often(int changes) {
        if (changes < 0 || changes > MOST_OFTEN || band.walkers == 0 || band.pieces == 0) {
            return NONE;
        }
        if (band.walkers > MOST_SEARCHED) {
            return CANNOT;
        }
        search.solve(marches.changeMinutes, changes);
        return search.minutes() == NEVER ? CANNOT : search.minutes();
    }

    public int edge() {
        if (band.walkers == 0 || band.pieces == 0) {
            return NONE;
        }
        if (band.walkers > MOST_SEARCHED) {
            return CANNOT;
        }
        search.solve(0, 0);
        int still = search.minutes();
        int cost = 0;
        // Each turn finds a march that a change's cost still lets gain, and takes the cost at which it doesn't:
        // less than that can't do, and when none gains any more, it does.
        for (int turn = 0; turn <= MOST_CHANGE + 1 && still < NEVER && cost <= MOST_CHANGE; turn++) {
            search.solve(cost, NONE);
            int gain = still - search.minutes();
            int changes = search.changes();
            if (gain <= 0 || changes <= 0) {
                return cost;
            }
            cost += (gain + changes - 1) / changes;
        }
        return CANNOT;
    }

    public int bands(int a, int b, int what) {
        int all = 1 << band.walkers;
        boolean sets = a > 0 && a < all && b > 0 && b < all && (a & b) == 0;
        if (!sets || what < 0 || what > 1 || band.pieces == 0) {
            return NONE;
        }
        if (!meeting.prepare(a, b)) {
            return CANNOT;
        }
        int minute = meeting.minute();
        return what == 0 ? minute : meeting.goneByFirst(minute);
    }

    public int kettle(int load) {
        if (!band.hasLoad(load) || !marches.marching) {
            return NONE;
        }
        marches.follow();
        int most = 0;
        int who = CANNOT;
        for (int w = 0; w < band.walkers; w++) {
            int miles = marches.milesWith(load, w);
            if (miles > most) {
                most = miles;
                who = w;
            }
        }
        return who;
    }

    public int check(int n) {
        if (!marches.marching || n < 0 || n > tape.size / 4) {
            return CANNOT;
        }
        marches.follow();
        int least = Math.min(n, marches.gone);
        int wrong = n == marches.gone ? NONE : least;
        for (int piece = least - 1; piece >= 0; piece--) {
            if (tape.number(piece) != marches.minutesOn[piece]) {
                wrong = piece;
            }
        }
        tape.size = 0;
        return wrong;
    }

    public int count(int what) {
        if (what >= 10 && band.hasPiece(what - 10)) {
            return band.allHeftAt(what - 10);
        }
        switch (what) {
            case 0: return band.walkers;
            case 1: return band.loads;
            case 2: return band.pieces;
            case 3: return rules.clauses;
            case 4: return tape.size;
            case 5: return marches.changeMinutes;
            case 6: return marches.told;
            case 7: return marches.marching ? 1 : 0;
            default: return NONE;
        }
    }

    /** What was reckoned by the walkers and the text before holds no more. */
    private void forget() {
        paces.version++;
        search.known = false;
    }

    private boolean standsOn(int piece, int tiredness) {
        return band.walkers > 0 && band.hasPiece(piece) && tiredness >= 0 && tiredness < TIREDNESSES;
    }

    /** Minutes until both are done if a and b go ahead; NEVER if they can't be fewer than the told ones. */
    private int minutesWithAhead(int piece, int tiredness, int cook, int a, int b, int fewer) {
        int paceOfA = paces.paceOf(a, 0, digit(tiredness, a), piece);
        int paceOfB = paces.paceOf(b, 0, digit(tiredness, b), piece);
        int two = band.minutes(piece, Math.min(paceOfA, paceOfB)) + cook;
        if (two >= fewer) {
            return NEVER;
        }
        packing.begin(piece, tiredness);
        packing.leaveOut(a);
        packing.leaveOut(b);
        return Math.max(two, band.minutes(piece, packing.greatest()));
    }

    private int minutesByStages(int piece, int tiredness, int n) {
        if (n < 1) {
            return NEVER;
        }
        int pounds = (band.allHeftAt(piece) + n - 1) / n;
        int pace = paces.sharedPace(pounds, piece, tiredness);
        if (pace == 0) {
            return NEVER;
        }
        int back = MOST_PACE;
        for (int w = 0; w < band.walkers; w++) {
            back = Math.min(back, paces.paceOf(w, 0, digit(tiredness, w), piece));
        }
        return n * band.minutes(piece, pace) + (n - 1) * band.minutes(piece, back);
    }

    private int minutesWithMule(int most, int begin, int end, int tiredness) {
        int minutes = 0;
        for (int piece = 0; piece < band.pieces; piece++) {
            int pounds = band.allHeftAt(piece);
            if (piece >= begin && piece < end) {
                pounds = Math.max(0, pounds - most);
            }
            int pace = paces.sharedPace(pounds, piece, tiredness);
            if (pace == 0) {
                return NEVER;
            }
            minutes += band.minutes(piece, pace);
        }
        return minutes;
    }

    private static int digit(int tiredness, int w) {
        return tiredness / SIXES[w] % TIRED_KINDS;
    }

    /** The bytes that are told ahead. */
    private static final class Tape {
        static final int MOST = 220;

        final int[] bytes = new int[MOST];
        int size;

        void append(int four) {
            for (int shift = 24; shift >= 0 && size < MOST; shift -= 8) {
                bytes[size] = (four >>> shift) & 255;
                size++;
            }
        }

        int number(int place) {
            int at = 4 * place;
            if (at < 0 || at + 3 >= MOST) {
                return NONE;
            }
            return bytes[at] << 24 | bytes[at + 1] << 16 | bytes[at + 2] << 8 | bytes[at + 3];
        }
    }

    /** Walkers, loads and pieces as they are told. */
    private static final class Band {
        int walkers;
        int loads;
        int pieces;
        final int[] knee = new int[MOST_WALKERS];
        final int[] weight = new int[MOST_WALKERS];
        final boolean[] limps = new boolean[MOST_WALKERS];
        final int[] heft = new int[MOST_LOADS];
        final int[] owner = new int[MOST_LOADS];
        final int[] food = new int[MOST_LOADS];
        final int[] miles = new int[MOST_PIECES];
        final int[] slope = new int[MOST_PIECES];

        boolean hasWalker(int w) {
            return w >= 0 && w < walkers;
        }

        boolean hasLoad(int load) {
            return load >= 0 && load < loads;
        }

        boolean hasPiece(int piece) {
            return piece >= 0 && piece < pieces;
        }

        int heftAt(int load, int piece) {
            return Math.max(0, heft[load] - food[load] * piece);
        }

        int allHeftAt(int piece) {
            int sum = 0;
            for (int load = 0; load < loads; load++) {
                sum += heftAt(load, piece);
            }
            return sum;
        }

        int minutes(int piece, int pace) {
            return pace < 1 ? NEVER : (600 * miles[piece] + pace - 1) / pace;
        }
    }

    /** A text as signs for a machine with a stack, and the machine. */
    private static final class Rules {
        static final int MOST_CLAUSES = 14;
        // A sign of the text makes one step at most, and a clause two ends in place of its letter and ( ).
        static final int MOST_STEPS = 256;
        static final int LETTERS = 10;
        // A [ leaves two numbers waiting at most, a < one more: seven of them open can't fill this.
        static final int STACK = 32;

        static final int END = 0;
        static final int NUMBER = 1;
        static final int LETTER = 2;
        static final int NOT = 3;
        static final int JUMP_IF_NOT = 4;
        static final int JUMP_IF = 5;
        static final int ADD = 6;
        static final int SUBTRACT = 7;
        static final int MULTIPLY = 8;
        static final int DIVIDE = 9;
        static final int REMAINDER = 10;
        static final int LESS = 11;
        static final int MORE = 12;
        static final int LIKE = 13;

        static final int CARRIES = 3;
        static final int SLOPE = 5;
        static final int MILES = 6;
        static final int MINUTES = 9;

        // What a step does in its low four bits, its number above them.
        final int[] steps = new int[MOST_STEPS];
        final int[] kind = new int[MOST_CLAUSES];
        final int[] yields = new int[MOST_CLAUSES];
        final int[] holds = new int[MOST_CLAUSES];
        int clauses;
        final int[] letters = new int[LETTERS];
        private final int[] stack = new int[STACK];

        void take(Rules other) {
            System.arraycopy(other.steps, 0, steps, 0, MOST_STEPS);
            System.arraycopy(other.kind, 0, kind, 0, MOST_CLAUSES);
            System.arraycopy(other.yields, 0, yields, 0, MOST_CLAUSES);
            System.arraycopy(other.holds, 0, holds, 0, MOST_CLAUSES);
            clauses = other.clauses;
        }

        /** What the first clause of a letter that holds yields, within bounds; 0 if none holds. */
        int value(int letter, int low, int high) {
            for (int i = 0; i < clauses; i++) {
                if (kind[i] == letter && run(holds[i]) != 0) {
                    return Math.max(low, Math.min(high, run(yields[i])));
                }
            }
            return 0;
        }

        /** What the steps from one on yield; 0 if something is refused, which is no, and an E of 0. */
        private int run(int from) {
            int at = from;
            // Two places at the bottom stay free, so that no step can reach below.
            int top = 1;
            for (int turn = 0; turn < MOST_STEPS && at >= 0 && at < MOST_STEPS; turn++) {
                int number = steps[at] >> 4;
                int step = steps[at] & 15;
                at++;
                if (top < 1 || top >= STACK - 1) {
                    return 0;
                }
                if (step == END) {
                    return stack[top];
                }
                if (step == NUMBER) {
                    top++;
                    stack[top] = number;
                } else if (step == LETTER) {
                    top++;
                    stack[top] = number >= 0 && number < LETTERS ? letters[number] : 0;
                } else if (step == NOT) {
                    stack[top] = 1 - stack[top];
                } else if (step == JUMP_IF_NOT || step == JUMP_IF) {
                    if (stack[top] != 0 == (step == JUMP_IF)) {
                        at = number;
                    } else {
                        top--;
                    }
                } else {
                    int right = stack[top];
                    if (right == 0 && (step == DIVIDE || step == REMAINDER)) {
                        return 0;
                    }
                    top--;
                    int left = stack[top];
                    switch (step) {
                        case ADD: left += right; break;
                        case SUBTRACT: left -= right; break;
                        case MULTIPLY: left *= right; break;
                        case DIVIDE: left /= right; break;
                        case REMAINDER: left %= right; break;
                        case LESS: left = left < right ? 1 : 0; break;
                        case MORE: left = left > right ? 1 : 0; break;
                        default: left = left == right ? 1 : 0; break;
                    }
                    stack[top] = left;
                }
            }
            return 0;
        }
    }

    /** Reads a text from the tape into rules, up to the first fault. */
    private static final class Reader {
        static final int MOST_OPEN = 6;
        static final int MOST_SIGNS = 200;

        final Rules draft = new Rules();
        private final Tape tape;
        private int end;
        private int at;
        private int length;
        private int letter;
        private int fault;

        Reader(Tape tape) {
            this.tape = tape;
        }

        /** 0, or the fault of the first n signs. */
        int read(int n) {
            end = n;
            at = 0;
            length = 0;
            fault = 0;
            draft.clauses = 0;
            boolean more = true;
            for (int turn = 0; turn <= Rules.MOST_CLAUSES && more; turn++) {
                more = clause() && at < end;
                if (more) {
                    more = takes(';');
                }
            }
            return fault;
        }

        private boolean clause() {
            letter = sign();
            if (letter != 'v' && letter != 'g' && letter != 'r') {
                return fails(1);
            }
            if (draft.clauses >= Rules.MOST_CLAUSES) {
                return fails(4);
            }
            at++;
            int yields = length;
            if (!sum(0) || !emit(Rules.END, 0) || !takes('(')) {
                return false;
            }
            int holds = length;
            if (!anyOf(1) || !emit(Rules.END, 0) || !takes(')')) {
                return false;
            }
            draft.kind[draft.clauses] = letter;
            draft.yields[draft.clauses] = yields;
            draft.holds[draft.clauses] = holds;
            draft.clauses++;
            return true;
        }

        /** A C: parts with | between; open tells how many signs are open around it. */
        private boolean anyOf(int open) {
            boolean fine = allOf(open);
            for (int turn = 0; turn < MOST_SIGNS && fine && sign() == '|'; turn++) {
                int jump = length;
                at++;
                fine = emit(Rules.JUMP_IF, 0) && allOf(open) && jumpsHere(jump);
            }
            return fine;
        }

        /** A part: pieces with & between. */
        private boolean allOf(int open) {
            boolean fine = single(open);
            for (int turn = 0; turn < MOST_SIGNS && fine && sign() == '&'; turn++) {
                int jump = length;
                at++;
                fine = emit(Rules.JUMP_IF_NOT, 0) && single(open) && jumpsHere(jump);
            }
            return fine;
        }

        /** A piece of a part: with !, in ( ), or two sums compared. */
        private boolean single(int open) {
            int sign = sign();
            if ((sign == '!' || sign == '(') && open >= MOST_OPEN) {
                return fails(5);
            }
            if (sign == '!') {
                at++;
                return single(open + 1) && emit(Rules.NOT, 0);
            }
            if (sign == '(') {
                at++;
                return anyOf(open + 1) && takes(')');
            }
            if (!sum(open)) {
                return false;
            }
            int step = comparing(sign());
            if (step == NONE) {
                return fails(1);
            }
            at++;
            return sum(open) && emit(step, 0);
        }

        /** An E: terms with + or - between. */
        private boolean sum(int open) {
            boolean fine = product(open);
            for (int turn = 0; turn < MOST_SIGNS && fine && (sign() == '+' || sign() == '-'); turn++) {
                int step = sign() == '+' ? Rules.ADD : Rules.SUBTRACT;
                at++;
                fine = product(open) && emit(step, 0);
            }
            return fine;
        }

        /** A term: factors with * / % between. */
        private boolean product(int open) {
            boolean fine = factor(open);
            for (int turn = 0; turn < MOST_SIGNS && fine && multiplying(sign()) != NONE; turn++) {
                int step = multiplying(sign());
                at++;
                fine = factor(open) && emit(step, 0);
            }
            return fine;
        }

        private boolean factor(int open) {
            int sign = sign();
            if (sign == '[') {
                if (open >= MOST_OPEN) {
                    return fails(5);
                }
                at++;
                return sum(open + 1) && takes(']');
            }
            if (sign >= '0' && sign <= '9') {
                return number();
            }
            int index = indexOf(sign);
            if (index == NONE) {
                return fails(1);
            }
            at++;
            return emit(Rules.LETTER, index);
        }

        private boolean number() {
            int value = 0;
            for (int digits = 0; digits <= 5 && sign() >= '0' && sign() <= '9'; digits++) {
                if (digits == 5) {
                    return fails(2);
                }
                value = value * 10 + sign() - '0';
                at++;
            }
            return emit(Rules.NUMBER, value);
        }

        private int indexOf(int sign) {
            switch (sign) {
                case 'w': return 0;
                case 'k': return 1;
                case 'b': return 2;
                case 'l': return Rules.CARRIES;
                case 't': return 4;
                case 'h': return Rules.SLOPE;
                case 'm': return Rules.MILES;
                case 'i': return 7;
                case 'n': return 8;
                case 'q': return letter == 'g' ? Rules.MINUTES : NONE;
                default: return NONE;
            }
        }

        private static int comparing(int sign) {
            switch (sign) {
                case '<': return Rules.LESS;
                case '>': return Rules.MORE;
                case '=': return Rules.LIKE;
                default: return NONE;
            }
        }

        private static int multiplying(int sign) {
            switch (sign) {
                case '*': return Rules.MULTIPLY;
                case '/': return Rules.DIVIDE;
                case '%': return Rules.REMAINDER;
                default: return NONE;
            }
        }

        private int sign() {
            return at < end && at < Tape.MOST ? tape.bytes[at] : NONE;
        }

        private boolean takes(int sign) {
            if (sign() != sign) {
                return fails(1);
            }
            at++;
            return true;
        }

        private boolean fails(int number) {
            fault = -1000 * number - at;
            return false;
        }

        private boolean emit(int step, int number) {
            if (length < Rules.MOST_STEPS) {
                draft.steps[length] = number << 4 | step;
                length++;
            }
            return true;
        }

        private boolean jumpsHere(int jump) {
            if (jump < Rules.MOST_STEPS) {
                draft.steps[jump] |= length << 4;
            }
            return true;
        }
    }

    /** How fast each goes, what each can carry, how tired each gets: the rules asked about the band. */
    private static final class Paces {
        private static final int SLOTS = MOST_WALKERS * TIRED_KINDS * MOST_PIECES;
        private static final int WIDE = MOST_PACE + 1;

        // What was reckoned under another version is stale.
        int version = 1;
        final int[] caps = new int[SLOTS * WIDE];
        private final int[] versions = new int[SLOTS];
        private final int[] sharing = new int[MOST_WALKERS];
        private final Band band;
        private final Rules rules;

        Paces(Band band, Rules rules) {
            this.band = band;
            this.rules = rules;
        }

        private void describe(int w, int pounds, int tired, int piece) {
            int[] letters = rules.letters;
            letters[0] = w;
            letters[1] = band.knee[w];
            letters[2] = band.weight[w];
            letters[Rules.CARRIES] = pounds;
            letters[4] = tired;
            letters[Rules.SLOPE] = band.slope[piece];
            letters[Rules.MILES] = band.miles[piece];
            letters[7] = piece;
            letters[8] = band.walkers;
            letters[Rules.MINUTES] = 0;
        }

        private int limped(int w, int pace) {
            return band.limps[w] ? pace / 2 : pace;
        }

        int paceOf(int w, int pounds, int tired, int piece) {
            describe(w, pounds, tired, piece);
            return limped(w, rules.value('v', 0, MOST_PACE));
        }

        /** With nothing, not tired, against the direction in which the pieces are told. */
        int paceBack(int w, int piece) {
            describe(w, 0, 0, piece);
            rules.letters[Rules.SLOPE] = -band.slope[piece];
            return limped(w, rules.value('v', 0, MOST_PACE));
        }

        int tiredBehind(int w, int pounds, int tired, int piece, int minutes) {
            describe(w, pounds, tired, piece);
            rules.letters[Rules.MINUTES] = minutes;
            int more = rules.value('g', -MOST_TIRED, MOST_TIRED);
            return Math.max(0, Math.min(MOST_TIRED, tired + more));
        }

        /** How tired a walker is after a rest ahead of a piece. */
        int tiredRested(int w, int tired, int piece) {
            describe(w, 0, tired, piece);
            rules.letters[Rules.SLOPE] = 0;
            rules.letters[Rules.MILES] = 0;
            return Math.max(0, tired - rules.value('r', 0, MOST_TIRED));
        }

        /** The place ahead of the pounds that a walker can carry at paces 1 to 60. */
        int capsFrom(int w, int tired, int piece) {
            int slot = (w * TIRED_KINDS + tired) * MOST_PIECES + piece;
            if (versions[slot] != version) {
                reckonCaps(slot * WIDE, w, tired, piece);
                versions[slot] = version;
            }
            return slot * WIDE;
        }

        private void reckonCaps(int from, int w, int tired, int piece) {
            describe(w, 0, tired, piece);
            int low = MOST_PACE;
            for (int pounds = 0; pounds <= MOST_CARRIED && low > 0; pounds++) {
                rules.letters[Rules.CARRIES] = pounds;
                int pace = limped(w, rules.value('v', 0, MOST_PACE));
                for (; low > pace; low--) {
                    caps[from + low] = pounds - 1;
                }
            }
            for (; low > 0; low--) {
                caps[from + low] = MOST_CARRIED;
            }
        }

        /** The pace of so many pounds in parts; 0 if there is none. */
        int sharedPace(int pounds, int piece, int tiredness) {
            for (int w = 0; w < band.walkers; w++) {
                sharing[w] = capsFrom(w, digit(tiredness, w), piece);
            }
            int low = 0;
            int high = MOST_PACE;
            for (int step = 0; step < HALVINGS && low < high; step++) {
                int middle = (low + high + 1) / 2;
                if (together(middle) >= pounds) {
                    low = middle;
                } else {
                    high = middle - 1;
                }
            }
            return low;
        }

        /** The pounds that those asked last can carry together at a pace; NONE if one can't go at it. */
        int together(int pace) {
            int sum = 0;
            for (int w = 0; w < band.walkers; w++) {
                int pounds = caps[sharing[w] + pace];
                if (pounds < 0) {
                    return NONE;
                }
                sum += pounds;
            }
            return sum;
        }
    }

    /** Whole loads on a piece, each to one of those who go. */
    private static final class Packing {
        private static final int MOST = MOST_LOADS + 1;
        // A walker and what he holds in one number, 512 pounds to each: behind the last one nobody is left.
        private static final int FULL = MOST_WALKERS << 9;

        final int[] heft = new int[MOST];
        final int[] row = new int[MOST];
        int quicker;
        private final int[] holder = new int[MOST];
        private int loads;
        private final boolean[] comes = new boolean[MOST_WALKERS];
        private final int[] capsFrom = new int[MOST_WALKERS];
        private final int[] room = new int[MOST_WALKERS];
        private final int[] loose = new int[MOST];
        private int looseCount;
        private final int[] reached = new int[1 << MOST];
        private final Band band;
        private final Paces paces;

        Packing(Band band, Paces paces) {
            this.band = band;
            this.paces = paces;
        }

        /** All go, with all loads as they are at the piece, the owners with theirs. */
        void begin(int piece, int tiredness) {
            quicker = NONE;
            loads = band.loads;
            for (int load = 0; load < loads; load++) {
                heft[load] = band.heftAt(load, piece);
                holder[load] = band.owner[load];
            }
            for (int w = 0; w < MOST_WALKERS; w++) {
                comes[w] = w < band.walkers;
                if (comes[w]) {
                    capsFrom[w] = paces.capsFrom(w, digit(tiredness, w), piece);
                }
            }
        }

        void freeAll() {
            for (int load = 0; load < loads; load++) {
                holder[load] = NONE;
            }
        }

        /** A walker who carries nothing here; his own loads are anybody's. */
        void leaveOut(int w) {
            comes[w] = false;
            for (int load = 0; load < loads; load++) {
                if (holder[load] == w) {
                    holder[load] = NONE;
                }
            }
        }

        void addLoad(int pounds) {
            if (loads < MOST) {
                heft[loads] = pounds;
                holder[loads] = NONE;
                loads++;
            }
        }

        /** The greatest pace at which all loads can be carried; 0 if there is none. */
        int greatest() {
            int low = 0;
            int high = MOST_PACE;
            for (int step = 0; step < HALVINGS && low < high; step++) {
                int middle = (low + high + 1) / 2;
                if (fits(middle)) {
                    low = middle;
                } else {
                    high = middle - 1;
                }
            }
            return low;
        }

        boolean fits(int pace) {
            return openRooms(pace) && looseFit(0);
        }

        /** The least row of walkers at a pace at which all can be carried. */
        void settle(int pace) {
            boolean fine = openRooms(pace);
            for (int load = 0; load < loads; load++) {
                row[load] = holder[load];
            }
            for (int i = 0; i < looseCount && fine; i++) {
                int load = loose[i];
                for (int w = 0; w < MOST_WALKERS && row[load] == NONE; w++) {
                    room[w] -= heft[load];
                    if (room[w] >= 0 && looseFit(i + 1)) {
                        row[load] = w;
                    } else {
                        room[w] += heft[load];
                    }
                }
            }
        }

        private int capAt(int w, int pace) {
            if (w == quicker && pace == 1) {
                return MOST_CARRIED;
            }
            return paces.caps[capsFrom[w] + (w == quicker ? pace - 1 : pace)];
        }

        /** What each can take beside his own at a pace, and which loads are left; whether that may do. */
        private boolean openRooms(int pace) {
            int space = 0;
            for (int w = 0; w < MOST_WALKERS; w++) {
                room[w] = comes[w] ? capAt(w, pace) : NONE;
                if (comes[w] && room[w] < 0) {
                    return false;
                }
                space += comes[w] ? room[w] : 0;
            }
            looseCount = 0;
            for (int load = 0; load < loads; load++) {
                int w = holder[load];
                space -= heft[load];
                if (w == NONE) {
                    loose[looseCount] = load;
                    looseCount++;
                } else {
                    room[w] -= heft[load];
                    if (room[w] < 0) {
                        return false;
                    }
                }
            }
            return space >= 0;
        }

        /**
         * Whether the loose loads from one on go into the rooms. For each set of them: the lowest walker up to whom
         * the rooms are needed, and the least that he then holds; no other way to place the set leaves more.
         */
        private boolean looseFit(int from) {
            int members = looseCount - from;
            if (members < 0 || members > MOST) {
                return false;
            }
            reached[0] = 0;
            for (int set = 1; set < 1 << members; set++) {
                int least = FULL;
                for (int i = 0; i < members; i++) {
                    if ((set >> i & 1) != 0) {
                        least = Math.min(least, placed(reached[set ^ 1 << i], heft[loose[from + i]]));
                    }
                }
                if (least == FULL) {
                    return false;
                }
                reached[set] = least;
            }
            return true;
        }

        private int placed(int state, int pounds) {
            int w = state >> 9;
            if (w < MOST_WALKERS && (state & 511) + pounds <= room[w]) {
                return state + pounds;
            }
            for (w++; w < MOST_WALKERS; w++) {
                if (pounds <= room[w]) {
                    return (w << 9) + pounds;
                }
            }
            return FULL;
        }
    }

    /** The told plans, the told march, and how it runs. */
    private static final class Marches {
        final int[][] plans = new int[MOST_PLANS][MOST_LOADS];
        int told;
        int changeMinutes = 10;
        boolean marching;
        // By pieces: 6 times the rests ahead of it, and the plan.
        final int[] row = new int[MOST_PIECES];
        int gone;
        final int[] minutesOn = new int[MOST_PIECES];
        final int[][] tiredOn = new int[MOST_PIECES][MOST_WALKERS];
        private final int[] tired = new int[MOST_WALKERS];
        private final Band band;
        private final Paces paces;

        Marches(Band band, Paces paces) {
            this.band = band;
            this.paces = paces;
        }

        boolean isTold(int k) {
            return k >= 0 && k < MOST_PLANS && (told >> k & 1) != 0;
        }

        int burden(int k, int w, int piece) {
            int pounds = 0;
            for (int load = 0; load < band.loads; load++) {
                if (plans[k][load] == w) {
                    pounds += band.heftAt(load, piece);
                }
            }
            return pounds;
        }

        boolean changesAt(int piece) {
            return piece > 0 && row[piece] % MOST_PLANS != row[piece - 1] % MOST_PLANS;
        }

        /** Runs the march as all is now, up to its end or to where it is spent. */
        void follow() {
            gone = 0;
            Arrays.fill(tired, 0);
            for (int piece = 0; piece < band.pieces; piece++) {
                int pace = restedPace(piece);
                if (pace == 0) {
                    return;
                }
                step(piece, band.minutes(piece, pace));
                gone++;
            }
        }

        /** The pace of all on a piece, behind the rests ahead of it. */
        private int restedPace(int piece) {
            int plan = row[piece] % MOST_PLANS;
            int least = MOST_PACE;
            for (int w = 0; w < band.walkers; w++) {
                int now = tired[w];
                for (int rest = 0; rest < row[piece] / MOST_PLANS; rest++) {
                    now = paces.tiredRested(w, now, piece);
                }
                tiredOn[piece][w] = now;
                least = Math.min(least, paces.paceOf(w, burden(plan, w, piece), now, piece));
            }
            return least;
        }

        private void step(int piece, int minutes) {
            int plan = row[piece] % MOST_PLANS;
            for (int w = 0; w < band.walkers; w++) {
                tired[w] = paces.tiredBehind(w, burden(plan, w, piece), tiredOn[piece][w], piece, minutes);
            }
            int change = changesAt(piece) ? changeMinutes : 0;
            minutesOn[piece] = minutes + REST_MINUTES * (row[piece] / MOST_PLANS) + change;
        }

        int allMinutes() {
            int sum = 0;
            for (int piece = 0; piece < gone; piece++) {
                sum += minutesOn[piece];
            }
            return sum;
        }

        int tiredness() {
            int sum = 0;
            for (int w = 0; w < band.walkers; w++) {
                sum += tired[w] * SIXES[w];
            }
            return sum;
        }

        int changes() {
            int sum = 0;
            for (int piece = 0; piece < gone; piece++) {
                sum += changesAt(piece) ? 1 : 0;
            }
            return sum;
        }

        int milesWith(int load, int w) {
            int miles = 0;
            for (int piece = 0; piece < gone; piece++) {
                if (plans[row[piece] % MOST_PLANS][load] == w) {
                    miles += band.miles[piece];
                }
            }
            return miles;
        }
    }

    /**
     * The best march. Piece by piece it keeps, for each tiredness, last plan and number of changes that can be
     * reached, the fewest minutes and of these the least row, both in one number: minutes above, the row below.
     */
    private static final class Search {
        private static final int TIRED_STATES = 1296;
        private static final int LAYERS = (MOST_OFTEN + 1) * MOST_PLANS;
        private static final int SIGNS = 18;
        // 18 to the 10th: a row's signs, one for each piece, stay below it.
        private static final long ROWS = 3570467226624L;
        // Above every key: no march is of so many minutes.
        private static final long UNREACHED = 1L << 62;

        boolean known;
        private long[] here = new long[LAYERS * TIRED_STATES];
        private long[] there = new long[LAYERS * TIRED_STATES];
        private int[] statesHere = new int[TIRED_STATES];
        private int[] statesThere = new int[TIRED_STATES];
        private int countHere;
        private int countThere;
        private final boolean[] listed = new boolean[TIRED_STATES];
        private final int[] tired = new int[MOST_SEARCHED];
        private final int[] burdens = new int[MOST_PLANS * MOST_SEARCHED];
        // What the rules tell for the piece, by plan, walker and tiredness; NONE: not asked yet.
        private final int[] pacesOn = new int[MOST_PLANS * MOST_SEARCHED * TIRED_KINDS];
        private final int[] restedOn = new int[MOST_SEARCHED * TIRED_KINDS];
        private final int[] behindOn = new int[MOST_PLANS * MOST_SEARCHED * TIRED_KINDS];
        // How many minutes of the piece were asked about.
        private final int[] behindFor = new int[MOST_PLANS * MOST_SEARCHED * TIRED_KINDS];
        private int cost;
        private int most;
        private long found;
        private final Band band;
        private final Paces paces;
        private final Marches marches;

        Search(Band band, Paces paces, Marches marches) {
            this.band = band;
            this.paces = paces;
            this.marches = marches;
            Arrays.fill(here, UNREACHED);
            Arrays.fill(there, UNREACHED);
        }

        /** Finds the best march at a cost of a change, with so many changes at most (NONE: any number). */
        void solve(int changeCost, int changesMost) {
            if (known && cost == changeCost && most == changesMost) {
                return;
            }
            cost = changeCost;
            most = changesMost;
            here[0] = 0;
            statesHere[0] = 0;
            countHere = 1;
            long unit = ROWS;
            for (int piece = 0; piece < band.pieces; piece++) {
                unit /= SIGNS;
                weigh(piece);
                countThere = 0;
                for (int i = 0; i < countHere; i++) {
                    spread(piece, statesHere[i], unit);
                }
                turnOver();
            }
            found = UNREACHED;
            for (int i = 0; i < countHere; i++) {
                for (int at = statesHere[i]; at < here.length; at += TIRED_STATES) {
                    found = Math.min(found, here[at]);
                    here[at] = UNREACHED;
                }
            }
            known = true;
        }

        int minutes() {
            return found == UNREACHED ? NEVER : (int) (found / ROWS);
        }

        int signAt(int piece) {
            long rest = found % ROWS;
            for (int i = MOST_PIECES - 1; i > piece; i--) {
                rest /= SIGNS;
            }
            return (int) (rest % SIGNS);
        }

        int changes() {
            int sum = 0;
            for (int piece = 1; piece < band.pieces; piece++) {
                sum += signAt(piece) % MOST_PLANS != signAt(piece - 1) % MOST_PLANS ? 1 : 0;
            }
            return sum;
        }

        private void weigh(int piece) {
            for (int k = 0; k < MOST_PLANS; k++) {
                for (int w = 0; w < band.walkers && marches.isTold(k); w++) {
                    burdens[k * MOST_SEARCHED + w] = marches.burden(k, w, piece);
                }
            }
            Arrays.fill(pacesOn, NONE);
            Arrays.fill(restedOn, NONE);
            Arrays.fill(behindFor, NONE);
        }

        /** All that can be done on a piece by those who are so tired ahead of it. */
        private void spread(int piece, int state, long unit) {
            for (int w = 0; w < band.walkers; w++) {
                tired[w] = state / SIXES[w] % TIRED_KINDS;
            }
            boolean eased = true;
            // A rest by which nobody is less tired only costs, and so does each behind it.
            for (int rests = 0; rests <= MOST_RESTS && eased; rests++) {
                for (int k = 0; k < MOST_PLANS; k++) {
                    int pace = marches.isTold(k) ? pacedBy(k, piece) : 0;
                    if (pace > 0) {
                        int minutes = band.minutes(piece, pace);
                        long price = (minutes + REST_MINUTES * rests) * ROWS + (rests * MOST_PLANS + k) * unit;
                        reach(piece, state, behind(k, piece, minutes), k, price);
                    }
                }
                eased = rests < MOST_RESTS && rest(piece);
            }
        }

        private int pacedBy(int k, int piece) {
            int least = MOST_PACE;
            for (int w = 0; w < band.walkers; w++) {
                int at = k * MOST_SEARCHED + w;
                int slot = at * TIRED_KINDS + tired[w];
                if (pacesOn[slot] == NONE) {
                    pacesOn[slot] = paces.paceOf(w, burdens[at], tired[w], piece);
                }
                least = Math.min(least, pacesOn[slot]);
            }
            return least;
        }

        private int behind(int k, int piece, int minutes) {
            int state = 0;
            for (int w = 0; w < band.walkers; w++) {
                int at = k * MOST_SEARCHED + w;
                int slot = at * TIRED_KINDS + tired[w];
                if (behindFor[slot] != minutes) {
                    behindOn[slot] = paces.tiredBehind(w, burdens[at], tired[w], piece, minutes);
                    behindFor[slot] = minutes;
                }
                state += SIXES[w] * behindOn[slot];
            }
            return state;
        }

        /** One rest more ahead of a piece; whether anybody is less tired by it. */
        private boolean rest(int piece) {
            boolean eased = false;
            for (int w = 0; w < band.walkers; w++) {
                int slot = w * TIRED_KINDS + tired[w];
                if (restedOn[slot] == NONE) {
                    restedOn[slot] = paces.tiredRested(w, tired[w], piece);
                }
                eased = eased || restedOn[slot] != tired[w];
                tired[w] = restedOn[slot];
            }
            return eased;
        }

        private void reach(int piece, int state, int behind, int k, long price) {
            if (!listed[behind]) {
                listed[behind] = true;
                statesThere[countThere] = behind;
                countThere++;
            }
            int layers = most == NONE ? MOST_PLANS : (most + 1) * MOST_PLANS;
            for (int layer = 0; layer < layers; layer++) {
                long before = here[layer * TIRED_STATES + state];
                boolean changed = piece > 0 && layer % MOST_PLANS != k;
                int changes = layer / MOST_PLANS + (changed && most != NONE ? 1 : 0);
                if (before != UNREACHED && (most == NONE || changes <= most)) {
                    int at = (changes * MOST_PLANS + k) * TIRED_STATES + behind;
                    there[at] = Math.min(there[at], before + price + (changed ? cost * ROWS : 0));
                }
            }
        }

        /** What lies behind the piece is ahead of the next one. */
        private void turnOver() {
            for (int i = 0; i < countHere; i++) {
                for (int at = statesHere[i]; at < here.length; at += TIRED_STATES) {
                    here[at] = UNREACHED;
                }
            }
            for (int i = 0; i < countThere; i++) {
                listed[statesThere[i]] = false;
            }
            long[] keys = here;
            here = there;
            there = keys;
            int[] states = statesHere;
            statesHere = statesThere;
            statesThere = states;
            countHere = countThere;
        }
    }

    /** Two bands that come from both ends, with nothing and not tired. */
    private static final class Meeting {
        private final int[] first = new int[MOST_PIECES];
        private final int[] second = new int[MOST_PIECES];
        private final Band band;
        private final Paces paces;

        Meeting(Band band, Paces paces) {
            this.band = band;
            this.paces = paces;
        }

        /** Reckons the paces of two sets of walkers; whether both can go on all pieces. */
        boolean prepare(int a, int b) {
            boolean fine = true;
            for (int piece = 0; piece < band.pieces; piece++) {
                first[piece] = MOST_PACE;
                second[piece] = MOST_PACE;
                for (int w = 0; w < band.walkers; w++) {
                    if ((a >> w & 1) != 0) {
                        first[piece] = Math.min(first[piece], paces.paceOf(w, 0, 0, piece));
                    }
                    if ((b >> w & 1) != 0) {
                        second[piece] = Math.min(second[piece], paces.paceBack(w, piece));
                    }
                }
                fine = fine && first[piece] > 0 && second[piece] > 0;
            }
            return fine;
        }

        /** The first minute at which both together have gone all miles. */
        int minute() {
            int low = 0;
            int high = 0;
            int all = 0;
            for (int piece = 0; piece < band.pieces; piece++) {
                high += band.minutes(piece, first[piece]);
                all += 10 * band.miles[piece];
            }
            for (int step = 0; step < HALVINGS && low < high; step++) {
                int middle = (low + high) / 2;
                if (goneByFirst(middle) + goneBySecond(middle) >= all) {
                    high = middle;
                } else {
                    low = middle + 1;
                }
            }
            return low;
        }

        int goneByFirst(int minute) {
            return gone(first, 0, 1, minute);
        }

        private int goneBySecond(int minute) {
            return gone(second, band.pieces - 1, -1, minute);
        }

        /** Tenths of a mile gone in so many minutes from a piece on, one way or the other. */
        private int gone(int[] speeds, int begin, int way, int minute) {
            int left = minute;
            int tenths = 0;
            for (int i = 0; i < band.pieces && left > 0; i++) {
                int piece = begin + way * i;
                int pace = speeds[piece];
                tenths += Math.min(10 * band.miles[piece], pace * left / 60);
                left -= band.minutes(piece, pace);
            }
            return tenths;
        }
    }
}
