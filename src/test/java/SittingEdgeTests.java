import java.math.BigInteger;

/** Edges of SITTINGS, draws, IMAGES, counts: ==== 4 of the Terms, promises 26 to 32. */
public final class SittingEdgeTests extends Edge {
    public static void main(String[] args) {
        seeds();
        draws();
        whoDraws();
        wrongWords();
        refusedSittings();
        fullOnes();
        putBy();
        undoing();
        undoneDraws();
        images();
        imageEdges();
        goingBack();
        sittingsAgain();
        refusedBacks();
        counts();
        counted();
        close();
    }

    private static final BigInteger FACTOR = new BigInteger("6364136223846793005");
    private static final BigInteger MORE = new BigInteger("1442695040888963407");

    /** x behind so many draws, in whole numbers without an end, cut to 64 bits. */
    private static BigInteger behind(long seed, int draws) {
        BigInteger x = BigInteger.valueOf(seed);
        for (int i = 0; i < draws; i++) {
            x = x.multiply(FACTOR).add(MORE).mod(BigInteger.ONE.shiftLeft(64));
        }
        return x;
    }

    private static int draw(long seed, int number) {
        return behind(seed, number).shiftRight(33).mod(BigInteger.valueOf(100)).intValue();
    }

    private static void seeds() {
        sentence(26, "The seed of draws from now on: true.");
        due("without a HOUSE", new MouthHouse().seed(5), true);
        for (long seed : new long[] {0, 1, -1, 5, Long.MIN_VALUE, Long.MAX_VALUE, 1L << 32, 1L << 62}) {
            MouthHouse x = house("me99;m");
            due("seed(" + seed + ")", x.seed(seed), true);
            due("again", x.seed(seed), true);
        }
        // the draw of seed 0 is 7, of seed 5 92
        MouthHouse x = house("me50;m");
        due("seed 0 at first", x.sitting(), 0);
        x.seed(5);
        due("seed 5", x.sitting(), 1);
        x.seed(0);
        due("seed 0 again", x.sitting(), 0);
        MouthHouse early = new MouthHouse();
        early.seed(5);
        told(early, 0, "me50;m");
        due("told ahead of the HOUSE", early.sitting(), 1);
    }

    /** Between which ERRORS the draw lies: it is below one more than itself, but not below itself. */
    private static void drawn(long seed, int number) {
        int draw = draw(seed, number);
        for (int error = Math.max(0, draw); error <= Math.min(99, draw + 1); error++) {
            MouthHouse x = house("me" + error + ";m");
            x.seed(seed);
            int yes = NONE;
            for (int i = 0; i < number; i++) {
                yes = x.sitting();
            }
            due("draw " + number + " of seed " + seed + ", ERROR " + error, yes, draw < error ? 0 : 1);
        }
    }

    private static void draws() {
        sentence(0, "becomes x times 6364136223846793005 and 1442695040888963407 (64 bits, going round)");
        due("the first draw of seed 0", draw(0, 1), 7);
        long[] seeds = {0, 1, -1, 2, 5, 99, -100, Long.MIN_VALUE, Long.MAX_VALUE, Long.MIN_VALUE + 1, 1L << 31,
            1L << 33, 1L << 62, 123456789012345678L, -123456789012345678L};
        for (long seed : seeds) {
            for (int number : new int[] {1, 2, 3, 7, 40}) {
                drawn(seed, number);
            }
        }
        sentence(0, "(x shifted right by 33, without sign) modulo k");
        int high = 0;
        for (long seed = 100; seed < 180; seed++) {
            drawn(seed, 1);
            high += behind(seed, 1).testBit(63) ? 1 : 0;
        }
        due("numbers with the highest bit, and without, were there", high > 20 && high < 60, true);
    }

    private static void whoDraws() {
        sentence(0, "A SITTING: each that is HEARD, by numbers");
        // draws of seed 0: 7 24 37; who is not HEARD takes none
        asks("me8;m", "7 is below 8", x -> x.sitting(), 0);
        asks("me8;mk1;m", "the dead take none", x -> x.sitting(), 0);
        asks("mk1;me8;m", "nor does who has no MOUTH", x -> x.sitting(), 0);
        asks("mk3;me8;m", "nor who is swallowed", x -> x.sitting(), 0);
        asks("me8;me24;m", "7 below 8, 24 not below 24", x -> x.sitting(), 1);
        asks("me8;me25;m", "7 below 8, 24 below 25", x -> x.sitting(), 0);
        asks("me7;me25;m", "7 not below 7, 24 below 25", x -> x.sitting(), 1);
        asks("me99k2;me24;m", "a dummy's takes one, too", x -> x.sitting(), 2);
        asks("me99k2;me25;m", "a dummy's takes one, too", x -> x.sitting(), 1);
        MouthHouse x = house("me8;mv0;me20");
        x.sit(210);
        // MEMBER 0 by 1 (0), 7; then 1 by 2 (20), 24; by SEATS 1 would be the first
        due("by numbers, not by SEATS", x.sitting(), 1);
        MouthHouse y = house("me50;m;m;mk1");
        // 7 (wrong) 24, then 37 (wrong) 36
        due("the first", y.sitting(), 1);
        due("the second", y.sitting(), 1);
    }

    private static void wrongWords() {
        sentence(0, "a draw of 100 below ERROR of its MOUTH makes it wrong");
        asks("me0;m", "ERROR 0", x -> x.sitting(), 1);
        asks("me7;m", "not below 7", x -> x.sitting(), 1);
        asks("me8;m", "below 8", x -> x.sitting(), 0);
        asks("me7;mv0", "a no, not below 7", x -> x.sitting(), 0);
        asks("me8;mv0", "a no, below 8", x -> x.sitting(), 1);
        asks("m;me99", "not its own ERROR", x -> x.sitting(), 1);
        asks("me99;m", "the MOUTH's ERROR", x -> x.sitting(), 0);
        asks("me99k2;m", "a dummy", x -> x.sitting(), 1);
        asks("me99k2;mv0", "a dummy", x -> x.sitting(), 0);
        asks("r;m;me8", "round the ring", x -> x.sitting(), 1);
    }

    private static void refusedSittings() {
        sentence(27, "NONE: no HOUSE, there are 40.");
        due("without a HOUSE", new MouthHouse().sitting(), NONE);
        MouthHouse none = new MouthHouse();
        none.sitting();
        due("count(7)", none.count(7), 0);
        told(none, 0, "me8;m");
        due("no draw was taken", none.sitting(), 0);
        MouthHouse x = house("me50;m");
        for (int i = 0; i < 40; i++) {
            due("count(7)", x.count(7), i);
            due("sitting " + i, x.sitting(), draw(0, i + 1) < 50 ? 0 : 1);
        }
        for (int i = 0; i < 3; i++) {
            due("a 41st", x.sitting(), NONE);
            due("count(7)", x.count(7), 40);
        }
        due("undo()", x.undo(), 39);
        due("the 40th again", x.sitting(), draw(0, 40) < 50 ? 0 : 1);
        due("a 41st", x.sitting(), NONE);
        // no draw was taken by those refused
        told(x, 0, "me" + draw(0, 41) + ";m");
        due("draw 41", x.sitting(), 1);
        sentence(27, "A SITTING: how many yes came out.");
        asks("mk1;m", "none HEARD", y -> y.sitting(), 0);
        asks("mk1;mk1", "all dead", y -> y.sitting(), 0);
        asks("r;m;m;m;m;m;m;m", "all seven", y -> y.sitting(), 7);
        asks("m;m;m;m;m;m;m", "all but the first", y -> y.sitting(), 6);
        asks("m;m;m;mk1", "without those not HEARD", y -> y.sitting(), 2);
    }

    private static void fullOnes() {
        sentence(0, "Put by (40 at most, no more then)");
        MouthHouse x = house("me50;m");
        for (int i = 0; i < 40; i++) {
            x.sitting();
        }
        x.sitting();
        for (int i = 0; i < 40; i++) {
            due("sat(" + i + ", 0)", x.sat(i, 0), draw(0, i + 1) < 50 ? 0 : 1);
        }
        due("sat(40, 0)", x.sat(40, 0), NONE);
        sentence(0, "yes that came out, whether it PASSED");
        for (int many = 2; many <= 7; many++) {
            for (int yes = 0; yes <= many; yes++) {
                MouthHouse y = house("r" + ";mv1".repeat(yes) + ";mv0".repeat(many - yes));
                y.sitting();
                due("sat(0, 0)", y.sat(0, 0), yes);
                due("sat(0, 1)", y.sat(0, 1), yes * 2 > many ? 1 : 0);
                due("count(8)", y.count(8), yes * 2 > many ? 1 : 0);
            }
        }
        MouthHouse none = house("mk1;m");
        none.sitting();
        due("none HEARD is not PASSED", none.sat(0, 1), 0);
        // what is put by stays, whatever comes later
        MouthHouse z = house("m;m;m");
        z.sitting();
        z.set(1, 0, 0);
        z.set(2, 1, 1);
        z.sitting();
        due("sat(0, 0)", z.sat(0, 0), 2);
        due("sat(0, 1)", z.sat(0, 1), 1);
        due("sat(1, 0)", z.sat(1, 0), 0);
        due("sat(1, 1)", z.sat(1, 1), 0);
    }

    private static void putBy() {
        sentence(28, "NONE: no such ones.");
        due("sat(0, 0) of a new one", new MouthHouse().sat(0, 0), NONE);
        due("sat(-1, 0) of a new one", new MouthHouse().sat(-1, 0), NONE);
        asks("m;m", "sat(0, 0), none yet", x -> x.sat(0, 0), NONE);
        MouthHouse x = house("m;m");
        for (int i = 0; i < 3; i++) {
            x.sitting();
            due("the last", x.sat(i, 0), 1);
            due("the last", x.sat(i, 1), 1);
            for (int what = 0; what < 2; what++) {
                due("one more", x.sat(i + 1, what), NONE);
                due("sat(-1)", x.sat(-1, what), NONE);
            }
            for (int far : new int[] {-1, 2, 3, LOWEST, HIGHEST}) {
                due("sat(" + i + ", " + far + ")", x.sat(i, far), NONE);
            }
        }
        for (int far : new int[] {40, 41, -2, LOWEST, HIGHEST}) {
            due("sat(" + far + ", 0)", x.sat(far, 0), NONE);
        }
    }

    private static void undoing() {
        sentence(29, "NONE: none.");
        due("undo() of a new one", new MouthHouse().undo(), NONE);
        asks("m;m", "undo(), none yet", x -> x.undo(), NONE);
        MouthHouse seeded = house("me50;m");
        seeded.seed(5);
        due("undo(), none", seeded.undo(), NONE);
        due("draws stay where nothing is undone", seeded.sitting(), 1);
        sentence(29, "The latest SITTING is UNDONE: how many there are.");
        MouthHouse x = house("m;m");
        for (int i = 0; i < 40; i++) {
            x.sitting();
        }
        for (int i = 39; i >= 0; i--) {
            due("undo()", x.undo(), i);
            due("count(7)", x.count(7), i);
            due("count(8)", x.count(8), i);
            due("it is gone", x.sat(i, 0), NONE);
            due("those ahead of it stay", x.sat(i - 1, 0), i == 0 ? NONE : 1);
        }
        due("undo(), none more", x.undo(), NONE);
        due("again", x.undo(), NONE);
        due("count(7)", x.count(7), 0);
    }

    private static void undoneDraws() {
        sentence(0, "The latest can be UNDONE (draws, too).");
        MouthHouse x = house("me50;m");
        x.seed(77);
        for (int round = 0; round < 3; round++) {
            for (int i = 1; i <= 6; i++) {
                due("draw " + i, x.sitting(), draw(77, i) < 50 ? 0 : 1);
            }
            for (int i = 5; i >= 0; i--) {
                due("undo()", x.undo(), i);
            }
        }
        // draws alone: SEATS, VOTES and KINDS stay as they were changed since
        MouthHouse y = house("me50;m;m");
        y.sitting();
        y.sit(210);
        y.set(0, 0, 0);
        y.set(2, 1, 3);
        due("undo()", y.undo(), 0);
        due("SEATS stay", y.count(4), 210);
        member(y, 0, 0, 0);
        member(y, 2, 3, 3);
        // draws are as they were ahead of it, even if a seed was told since
        MouthHouse z = house("me50;m");
        due("draw 1 of seed 0, 7", z.sitting(), 0);
        due("draw 2 of seed 0, 24", z.sitting(), 0);
        z.seed(5);
        due("undo()", z.undo(), 1);
        due("undo()", z.undo(), 0);
        due("draw 1 of seed 0, 7, not of seed 5, 92", z.sitting(), 0);
    }

    private static void images() {
        sentence(30, "NONE: no HOUSE.");
        due("image() of a new one", new MouthHouse().image(), NONE);
        MouthHouse none = new MouthHouse();
        none.image();
        told(none, 0, "m;m");
        due("no IMAGE was made without a HOUSE", none.back(), NONE);
        sentence(30, "An IMAGE (instead of the one ahead): how many SITTINGS.");
        MouthHouse x = house("me50;m");
        for (int i = 0; i <= 40; i++) {
            due("image()", x.image(), i);
            x.sitting();
        }
        due("undo()", x.undo(), 39);
        due("back() to the latest", x.back(), 40);
        x.undo();
        due("image()", x.image(), 39);
        x.sitting();
        due("back() to the latest", x.back(), 39);
        MouthHouse y = house("m;m;m");
        y.image();
        y.sit(210);
        y.image();
        y.sit(102);
        due("back()", y.back(), 0);
        due("the one ahead is gone", y.count(4), 210);
    }

    private static void imageEdges() {
        sentence(0, "An IMAGE keeps SEATS, VOTES, KINDS, SITTINGS, draws; BACK: they are so again.");
        MouthHouse x = house("me50;mv0k2;me40");
        x.seed(9);
        x.sit(201);
        x.sitting();
        x.image();
        for (int i = 1; i < 40; i++) {
            x.sitting();
        }
        x.sit(120);
        x.set(0, 0, 0);
        x.set(1, 0, 1);
        x.set(1, 1, 1);
        x.set(2, 1, 3);
        x.seed(1234);
        due("back()", x.back(), 1);
        due("SEATS", x.count(4), 201);
        int[] seats = {1, 2, 0};
        int[] mouths = {2, 0, NONE};
        for (int m = 0; m < 3; m++) {
            member(x, m, 7, seats[m]);
            member(x, m, 8, mouths[m]);
        }
        member(x, 0, 0, 1);
        member(x, 1, 0, 0);
        member(x, 1, 3, 2);
        member(x, 2, 3, 0);
        due("SITTINGS", x.count(7), 1);
        due("those later are gone", x.sat(1, 0), NONE);
        // what came by the mouths of 2 (40) and of 0 (50), behind the two draws of the first SITTING
        int yes = (draw(9, 3) < 40 ? 0 : 1) + (draw(9, 4) < 50 ? 1 : 0);
        due("draws", x.sitting(), yes);
        due("undo()", x.undo(), 1);
        due("undo() of one that the IMAGE kept", x.undo(), 0);
        due("draws ahead of it", x.sitting(), (draw(9, 1) < 40 ? 0 : 1) + (draw(9, 2) < 50 ? 1 : 0));
        // what an IMAGE does not keep stays: the TAPE, MANNERS, which hold, KNOWN
        x.image();
        x.know(0, true);
        told(x, 1, "y:3");
        x.manners(0);
        feed(x, "m;m");
        due("back()", x.back(), 1);
        due("count(6)", x.count(6), 1);
        due("count(2)", x.count(2), 1);
        due("count(5)", x.count(5), 0);
        due("count(3)", x.count(3), 3);
    }

    private static void goingBack() {
        sentence(31, "BACK: how many SITTINGS.");
        MouthHouse x = house("me50;m");
        due("image() of none", x.image(), 0);
        for (int i = 0; i < 40; i++) {
            x.sitting();
        }
        due("back() from 40 to none", x.back(), 0);
        due("sat(0, 0)", x.sat(0, 0), NONE);
        due("undo()", x.undo(), NONE);
        due("there is room again", x.sitting(), draw(0, 1) < 50 ? 0 : 1);
        due("back() again", x.back(), 0);
        MouthHouse full = house("me50;m");
        for (int i = 0; i < 40; i++) {
            full.sitting();
        }
        due("image() of 40", full.image(), 40);
        for (int i = 0; i < 40; i++) {
            full.undo();
        }
        due("count(7)", full.count(7), 0);
        due("back() from none to 40", full.back(), 40);
        for (int i = 0; i < 40; i++) {
            due("sat(" + i + ", 0)", full.sat(i, 0), draw(0, i + 1) < 50 ? 0 : 1);
        }
        due("a 41st", full.sitting(), NONE);
        due("undo()", full.undo(), 39);
    }

    private static void sittingsAgain() {
        sentence(0, "BACK: they are so again");
        MouthHouse x = house("me50;m;m");
        x.seed(3);
        int[] yes = new int[5];
        int[] passed = new int[5];
        for (int i = 0; i < 5; i++) {
            x.set(1, 0, i % 2);
            yes[i] = x.sitting();
            passed[i] = x.sat(i, 1);
        }
        x.image();
        for (int i = 4; i >= 0; i--) {
            due("undo()", x.undo(), i);
        }
        // others in their place, which came out in another way
        x.seed(4444);
        x.set(1, 0, 0);
        x.set(2, 0, 0);
        for (int i = 0; i < 9; i++) {
            x.sitting();
        }
        due("back()", x.back(), 5);
        for (int i = 0; i < 5; i++) {
            due("sat(" + i + ", 0)", x.sat(i, 0), yes[i]);
            due("sat(" + i + ", 1)", x.sat(i, 1), passed[i]);
        }
        due("count(8)", x.count(8), passed[0] + passed[1] + passed[2] + passed[3] + passed[4]);
        due("some are yes of both, some not", yes[0] + yes[1] + yes[2] + yes[3] + yes[4] > 2, true);
        for (int i = 4; i >= 0; i--) {
            due("undo()", x.undo(), i);
            x.set(1, 0, i % 2);
            due("draws ahead of each", x.sitting(), yes[i]);
            due("undo()", x.undo(), i);
        }
    }

    private static void refusedBacks() {
        sentence(31, "NONE: no IMAGE of this HOUSE.");
        due("back() of a new one", new MouthHouse().back(), NONE);
        asks("m;m", "no IMAGE", x -> x.back(), NONE);
        MouthHouse x = house("m;m;m");
        x.image();
        due("the same TEXT is another HOUSE", told(x, 0, "m;m;m"), 3);
        due("back()", x.back(), NONE);
        x.sit(210);
        due("back()", x.back(), NONE);
        due("count(4)", x.count(4), 210);
        due("image()", x.image(), 0);
        due("text(0) is refused", told(x, 0, "m"), NONE);
        due("the IMAGE stays", x.back(), 0);
        due("text(1)", told(x, 1, "y:1"), 0);
        due("the IMAGE stays", x.back(), 0);
    }

    private static void counts() {
        sentence(32, "HIDDEN for others.");
        for (int what : new int[] {-1, 9, 10, 100, -2, -100000000, LOWEST, HIGHEST}) {
            due("count(" + what + ")", new MouthHouse().count(what), HIDDEN);
            asks("m;m", "count(" + what + ")", x -> x.count(what), HIDDEN);
        }
        sentence(32, "4 the SEATING (0 without a HOUSE)");
        due("without a HOUSE", new MouthHouse().count(4), 0);
        int[] first = {1, 12, 123, 1234, 12345, 123456};
        for (int many = 2; many <= 7; many++) {
            due("of " + many, plain(many, false).count(4), first[many - 2]);
        }
        sentence(32, "5 which MANNERS hold (NONE)");
        due("none told", new MouthHouse().count(5), NONE);
        MouthHouse x = new MouthHouse();
        told(x, 1, "y:1");
        due("told, but they do not hold", x.count(5), NONE);
        x.manners(0);
        due("they hold", x.count(5), 0);
        x.manners(1);
        due("refused", x.count(5), 0);
        x.manners(NONE);
        due("none hold", x.count(5), NONE);
    }

    private static void counted() {
        sentence(32, "0 MEMBERS, 1 whether it is a ring (1, 0), 2 MANNERS, 3 bytes of the TAPE");
        for (int many = 2; many <= 7; many++) {
            due("MEMBERS, the dead, too", house("mk1" + ";mk1".repeat(many - 1)).count(0), many);
            due("a row", plain(many, false).count(1), 0);
            due("a ring", plain(many, true).count(1), 1);
        }
        MouthHouse x = plain(2, true);
        told(x, 0, "m;m");
        due("a ring no longer", x.count(1), 0);
        for (int i = 0; i < 4; i++) {
            due("MANNERS", x.count(2), i);
            told(x, 1, "y:1");
        }
        due("MANNERS", x.count(2), 4);
        due("bytes", x.count(3), 0);
        feed(x, " ".repeat(160));
        due("bytes", x.count(3), 160);
        sentence(32, "6 KNOWN, 7 SITTINGS, 8 how many of these PASSED");
        MouthHouse y = house("m;m");
        y.sitting();
        y.set(1, 0, 0);
        y.sitting();
        y.set(1, 0, 1);
        y.sitting();
        due("KNOWN", y.count(6), 0);
        due("SITTINGS", y.count(7), 3);
        due("PASSED", y.count(8), 2);
        y.undo();
        due("PASSED", y.count(8), 1);
        y.undo();
        due("PASSED", y.count(8), 1);
        y.undo();
        due("PASSED", y.count(8), 0);
        for (int i = 0; i < 40; i++) {
            y.sitting();
        }
        due("SITTINGS", y.count(7), 40);
        due("PASSED", y.count(8), 40);
    }
}
