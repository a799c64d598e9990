/** Counts answers that are not the due ones, and puts texts and bytes on the tape. */
final class Told {
    private int wrong;
    private int asked;

    void due(String what, long got, long want) {
        asked++;
        if (got != want) {
            wrong++;
            System.out.println(what + " answered " + got + ", due is " + want);
        }
    }

    void due(String what, boolean got, boolean want) {
        due(what, got ? 1 : 0, want ? 1 : 0);
    }

    int end() {
        System.out.println(asked + " answers, " + wrong + " of them not as due");
        return wrong == 0 ? 0 : 1;
    }

    /** Puts bytes behind the tape, filled up with blanks to twenties. */
    static void bytes(SlowPace x, int... bytes) {
        for (int at = 0; at < bytes.length; at += 20) {
            int[] five = new int[5];
            for (int i = 0; i < 20; i++) {
                five[i / 4] = five[i / 4] << 8 | (at + i < bytes.length ? bytes[at + i] & 255 : 32);
            }
            x.feed(five[0], five[1], five[2], five[3], five[4]);
        }
    }

    static int text(SlowPace x, String signs) {
        int[] bytes = new int[signs.length()];
        for (int i = 0; i < bytes.length; i++) {
            bytes[i] = signs.charAt(i);
        }
        bytes(x, bytes);
        return x.text(bytes.length);
    }

    static boolean plan(SlowPace x, int k, int... walkers) {
        bytes(x, walkers);
        return x.plan(k);
    }

    static boolean march(SlowPace x, int... row) {
        bytes(x, row);
        return x.march(row.length);
    }

    static int check(SlowPace x, int... numbers) {
        int[] bytes = new int[4 * numbers.length];
        for (int i = 0; i < bytes.length; i++) {
            bytes[i] = numbers[i / 4] >> 24 - 8 * (i % 4) & 255;
        }
        bytes(x, bytes);
        return x.check(numbers.length);
    }
}
