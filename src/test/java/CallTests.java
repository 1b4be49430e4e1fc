import java.util.NoSuchElementException;
import java.util.Random;

/** Any arguments in any state: nothing but the exception of member(..) is ever thrown, and the model answers alike. */
public final class CallTests {
    private static final int[] EDGES = {Integer.MIN_VALUE, Integer.MIN_VALUE + 1, -100000000, -41, -21, -8, -3, -2, -1, 0, 1,
        2, 3, 4, 5, 6, 7, 8, 9, 10, 11, 12, 19, 20, 21, 31, 32, 33, 39, 40, 41, 63, 64, 99, 100, 101, 127, 128, 159, 160, 161,
        255, 256, 12, 21, 102, 120, 123, 321, 3210, 43210, 654321, 6543210, 5039, 5040, 5041, 1 << 16, 1 << 30, -1 << 30,
        Integer.MAX_VALUE - 1, Integer.MAX_VALUE};
    private static final String[] HOUSES = {"m;m", "r;m;m", "mk1;mk1", "r;mk1;mk1;m", "mk3;m;mk3", "r;mn1e99;mn2e50;mn0e1",
        "r;mv0b0;mv0b99d20;my0;mk2e99n1", "m;mk1n0;mv0y20;me33;mk3"};
    private static final String[] MANNERS = {"y:1", "y:9999*9999*s", "y:d/[v-w]", "y:!(v=1&n=0)?e-s;y:0-9999*d", "y:s=9?1"};

    private static int wrong = 0;
    private static int calls = 0;

    private final Random random;
    private final MouthHouse house = new MouthHouse();
    private final HouseModel model = new HouseModel();
    private int used = 0;

    private CallTests(long seed) {
        random = new Random(seed);
    }

    public static void main(String[] args) {
        int runs = args.length > 0 ? Integer.parseInt(args[0]) : 60;
        for (long seed = 1; seed <= runs && wrong < 10; seed++) {
            new CallTests(seed).run();
        }
        System.out.println(calls + " calls, " + wrong + " not as due");
        if (wrong != 0) {
            System.exit(1);
        }
    }

    private int any() {
        return random.nextInt(3) == 0 ? EDGES[random.nextInt(EDGES.length)] : random.nextInt(6) - 1;
    }

    private void run() {
        for (int i = 0; i < 700; i++) {
            int sort = random.nextInt(60);
            if (sort == 0 || i == 40) {
                tell(0, HOUSES[random.nextInt(HOUSES.length)]);
            } else if (sort == 1) {
                tell(1, MANNERS[random.nextInt(MANNERS.length)]);
            } else {
                callBoth(random.nextInt(31), new int[] {any(), any(), any(), any(), any()});
            }
        }
    }

    private void tell(int sort, String text) {
        callBoth(1, new int[] {0, 0, 0, 0, 0});
        for (int from = 0; from < text.length(); from += 20) {
            int[] five = new int[5];
            for (int i = 0; i < 20 && from + i < text.length(); i++) {
                five[i / 4] |= text.charAt(from + i) << 24 - i % 4 * 8;
            }
            callBoth(0, five);
        }
        callBoth(3, new int[] {sort, 0, 0, 0, 0});
    }

    /** Behind its 512th call an object may answer what it likes, but still not throw. */
    private void callBoth(int call, int[] a) {
        used++;
        calls++;
        long got = answer(call, a, true);
        long want = used > 512 ? got : answer(call, a, false);
        if (got != want) {
            wrong++;
            System.out.println("call " + call + " of " + java.util.Arrays.toString(a) + " answered " + got + ", due is " + want);
        }
    }

    private long answer(int call, int[] a, boolean own) {
        try {
            return own ? ofHouse(call, a) : ofModel(call, a);
        } catch (NoSuchElementException e) {
            return call == 4 ? Long.MIN_VALUE : Long.MIN_VALUE + 1;
        } catch (RuntimeException e) {
            wrong++;
            System.out.println("call " + call + " of " + java.util.Arrays.toString(a) + " throws " + e);
            return Long.MIN_VALUE + 2;
        }
    }

    private long ofHouse(int call, int[] a) {
        return switch (call) {
            case 0 -> house.feed(a[0], a[1], a[2], a[3], a[4]);
            case 1 -> house.end(a[0]) ? 1 : 0;
            case 2 -> house.fault(a[0]);
            case 3 -> house.text(a[0]);
            case 4 -> house.member(a[0], a[1]);
            case 5 -> house.seat(a[0]);
            case 6 -> house.manners(a[0]) ? 1 : 0;
            case 7 -> house.set(a[0], a[1], a[2]) ? 1 : 0;
            case 8 -> house.change(a[0], a[1]) ? 1 : 0;
            case 9 -> house.sit(a[0]) ? 1 : 0;
            case 10 -> house.round(a[0], a[1], a[2]);
            case 11 -> house.tally(a[0]);
            case 12 -> house.odds(a[0]);
            case 13 -> house.passed();
            case 14 -> house.turner();
            case 15 -> house.bribe(a[0]);
            case 16 -> house.yawn(a[0], a[1]);
            case 17 -> house.yawns(a[0], a[1]);
            case 18 -> house.ill();
            case 19 -> house.best(a[0], a[1]);
            case 20 -> house.changes(a[0]);
            case 21 -> house.know(a[0], a[1] > 0);
            case 22 -> house.fits(a[0]);
            case 23 -> house.sure(a[0] > 0);
            case 24 -> house.seed((long) a[0] << 32 | a[1]) ? 1 : 0;
            case 25 -> house.sitting();
            case 26 -> house.sat(a[0], a[1]);
            case 27 -> house.undo();
            case 28 -> house.image();
            case 29 -> house.back();
            default -> house.count(a[0]);
        };
    }

    private long ofModel(int call, int[] a) {
        return switch (call) {
            case 0 -> model.feed(a[0], a[1], a[2], a[3], a[4]);
            case 1 -> model.end(a[0]) ? 1 : 0;
            case 2 -> model.fault(a[0]);
            case 3 -> model.text(a[0]);
            case 4 -> model.member(a[0], a[1]);
            case 5 -> model.seat(a[0]);
            case 6 -> model.manners(a[0]) ? 1 : 0;
            case 7 -> model.set(a[0], a[1], a[2]) ? 1 : 0;
            case 8 -> model.change(a[0], a[1]) ? 1 : 0;
            case 9 -> model.sit(a[0]) ? 1 : 0;
            case 10 -> model.round(a[0], a[1], a[2]);
            case 11 -> model.tally(a[0]);
            case 12 -> model.odds(a[0]);
            case 13 -> model.passed();
            case 14 -> model.turner();
            case 15 -> model.bribe(a[0]);
            case 16 -> model.yawn(a[0], a[1]);
            case 17 -> model.yawns(a[0], a[1]);
            case 18 -> model.ill();
            case 19 -> model.best(a[0], a[1]);
            case 20 -> model.changes(a[0]);
            case 21 -> model.know(a[0], a[1] > 0);
            case 22 -> model.fits(a[0]);
            case 23 -> model.sure(a[0] > 0);
            case 24 -> model.seed((long) a[0] << 32 | a[1]) ? 1 : 0;
            case 25 -> model.sitting();
            case 26 -> model.sat(a[0], a[1]);
            case 27 -> model.undo();
            case 28 -> model.image();
            case 29 -> model.back();
            default -> model.count(a[0]);
        };
    }
}
