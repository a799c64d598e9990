/** Calls with any numbers at all, the lowest and highest too, 512 on each object: none may throw. */
public final class WildTest {
    private static final int[] ODD = {Integer.MIN_VALUE, Integer.MIN_VALUE + 1, -46656, -3, -2, -1, 46655, 46656,
        1 << 29, 1 << 30, Integer.MAX_VALUE - 1, Integer.MAX_VALUE};

    private final Dice dice;
    private final SlowPace x = new SlowPace();

    private WildTest(Dice dice) {
        this.dice = dice;
    }

    public static void main(String[] args) {
        int runs = args.length > 0 ? Integer.parseInt(args[0]) : 120;
        for (int run = 0; run < runs; run++) {
            WildTest test = new WildTest(new Dice(run));
            int call = 0;
            try {
                for (; call < 512; call++) {
                    test.call(dice(run, call));
                }
            } catch (RuntimeException thrown) {
                System.out.println("run " + run + ", call " + call + ":");
                thrown.printStackTrace(System.out);
                System.exit(1);
            }
        }
        System.out.println("nothing was thrown");
    }

    /** First much is told, then anything is asked. */
    private static int dice(int run, int call) {
        return call < 60 + run % 7 ? 11 : 31;
    }

    private int any() {
        int kind = dice.from(0, 11);
        return kind == 0 ? ODD[dice.next(ODD.length)] : kind == 1 ? dice.from(-20, 300) : dice.from(-1, 6);
    }

    private int some(int low, int high) {
        return dice.once(12) ? any() : dice.from(low, high);
    }

    private void text() {
        String signs = ThrownTexts.text(dice);
        Told.text(x, signs.length() > 200 ? signs.substring(0, 200) : signs);
    }

    private void call(int kinds) {
        switch (dice.next(kinds)) {
            case 0: x.walker(some(0, 9), some(20, 250)); break;
            case 1: x.load(some(1, 120), dice.once(2) ? -1 : any(), some(0, 20)); break;
            case 2: x.piece(some(1, 20), some(-9, 9)); break;
            case 3: x.lame(any(), dice.once(2)); break;
            case 4: x.change(some(0, 120)); break;
            case 5: x.feed(any(), any() << 8 | 1, any() << 16, 0x01000102, 0x02060c00); break;
            case 6: text(); break;
            case 7: x.text(some(1, 200)); break;
            case 8: x.plan(any()); break;
            case 9: x.march(dice.once(2) ? x.count(2) : any()); break;
            case 10: x.check(some(0, 10)); break;
            case 11: x.pace(any(), some(0, 1000), any(), any()); break;
            case 12: x.carry(any(), some(1, 60), any(), any()); break;
            case 13: x.parts(some(0, 2400), any(), some(0, 46655), any()); break;
            case 14: x.whole(any(), some(0, 46655), any()); break;
            case 15: x.wont(any(), some(0, 46655)); break;
            case 16: x.who(any(), some(0, 46655), any()); break;
            case 17: x.pounds(any(), any(), some(0, 46655)); break;
            case 18: x.ahead(any(), some(0, 46655), some(0, 600), any()); break;
            case 19: x.stages(any(), some(0, 46655), any()); break;
            case 20: x.goes(any(), some(0, 46655)); break;
            case 21: x.carried(any(), some(0, 46655), any()); break;
            case 22: x.mule(some(1, 500), any(), some(0, 46655), any()); break;
            case 23: x.ran(any()); break;
            case 24: x.gap(any()); break;
            case 25: x.best(any()); break;
            case 26: x.often(any()); break;
            case 27: x.edge(); break;
            case 28: x.bands(some(0, 63), some(0, 63), any()); break;
            case 29: x.kettle(any()); break;
            default: x.count(some(-1, 20)); break;
        }
    }
}
