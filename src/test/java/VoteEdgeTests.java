/** Edges of VOTES, of who is bought, of what is KNOWN: ==== 2 and 3 of the Terms, promises 13 to 17, 23 to 25. */
public final class VoteEdgeTests extends Edge {
    private static final int[] FAR = {-1, 2, 3, 8, 32, -2, -100000000, LOWEST, HIGHEST};

    public static void main(String[] args) {
        tallies();
        odds();
        passing();
        turners();
        bribes();
        bribed();
        knowing();
        fitting();
        nothingComes();
        weighedWhenAsked();
        sure();
        close();
    }

    /** A ring in which all are HEARD, the first so many with a yes. */
    private static String voting(int many, int yes, String items) {
        StringBuilder text = new StringBuilder("r");
        for (int m = 0; m < many; m++) {
            text.append(m < yes ? ";mv1" : ";mv0").append(items);
        }
        return text.toString();
    }

    private static long power(long base, int exponent) {
        long product = 1;
        for (int i = 0; i < exponent; i++) {
            product *= base;
        }
        return product;
    }

    private static void tallies() {
        sentence(13, "NONE: no HOUSE, no such what.");
        due("tally(0) without a HOUSE", new MouthHouse().tally(0), NONE);
        due("tally(1) without a HOUSE", new MouthHouse().tally(1), NONE);
        due("tally(2) without a HOUSE", new MouthHouse().tally(2), NONE);
        for (int far : FAR) {
            asks("m;m", "tally(" + far + ")", x -> x.tally(far), NONE);
        }
        sentence(13, "TALLY: HEARD (0), yes (1).");
        for (int many = 2; many <= 7; many++) {
            for (int yes = 0; yes <= many; yes++) {
                MouthHouse x = house(voting(many, yes, "e99"));
                due("tally(0)", x.tally(0), many);
                due("tally(1) without ERRORS", x.tally(1), yes);
            }
        }
        sentence(0, "HEARD are those that have a MOUTH and are not SWALLOWED");
        asks("mk1;m", "tally(0)", x -> x.tally(0), 0);
        asks("mk1;m", "tally(1)", x -> x.tally(1), 0);
        asks("mk1;mk1", "tally(0)", x -> x.tally(0), 0);
        asks("m;m;m;m;m;m;m", "tally(0)", x -> x.tally(0), 6);
        asks("mk3;mk3;mk3", "tally(0)", x -> x.tally(0), 0);
        asks("r;mn2;mn0;mn1", "tally(0), hated by another one", x -> x.tally(0), 3);
        asks("r;mn1;mn2;mn0", "tally(0), hated by its MOUTH", x -> x.tally(0), 0);
        asks("mv0;m;mv0", "tally(1)", x -> x.tally(1), 1);
    }

    private static void odds() {
        sentence(14, "NONE: no HOUSE, below 0. (More than are HEARD: 0.)");
        for (int yes : new int[] {-1, 0, 1, LOWEST, HIGHEST}) {
            due("odds(" + yes + ") without a HOUSE", new MouthHouse().odds(yes), NONE);
        }
        for (int yes : new int[] {-1, -2, LOWEST}) {
            asks("m;m", "odds(" + yes + ")", x -> x.odds(yes), NONE);
        }
        for (int many = 2; many <= 7; many++) {
            for (int yes : new int[] {many + 1, 8, 9, 100, HIGHEST}) {
                asks(voting(many, many, "e50"), "odds(" + yes + ")", x -> x.odds(yes), 0);
            }
            long last = power(50, many);
            asks(voting(many, many, "e50"), "as many as are HEARD", x -> x.odds(x.tally(0)), last);
        }
        sentence(0, "ODDS of j: of 100 to the power of how many are HEARD parts as many by which just j yes come out.");
        for (int many = 2; many <= 7; many++) {
            for (int yes = 0; yes <= many; yes++) {
                MouthHouse x = house(voting(many, yes, "e37"));
                long sum = 0;
                for (int j = 0; j <= 7; j++) {
                    sum += x.odds(j);
                }
                due("all of " + many, sum, power(100, many));
                due("none of " + many, x.odds(0), power(37, yes) * power(63, many - yes));
                due("all yes of " + many, x.odds(many), power(63, yes) * power(37, many - yes));
                due("without ERRORS", house(voting(many, yes, "")).odds(yes), power(100, many));
            }
        }
        asks(voting(7, 7, "e99"), "odds(0)", x -> x.odds(0), 93206534790699L);
        asks(voting(7, 7, "e99"), "odds(7)", x -> x.odds(7), 1);
        asks(voting(7, 7, "e99"), "odds(1)", x -> x.odds(1), 7 * 941480149401L);
        asks("mk1;m", "odds(0), none HEARD", x -> x.odds(0), 1);
        asks("mk1;m", "odds(1), none HEARD", x -> x.odds(1), 0);
        asks("m;me99", "the ERROR of the MOUTH", x -> x.odds(1), 100);
    }

    private static void passing() {
        sentence(15, "NONE: no HOUSE.");
        due("passed() without a HOUSE", new MouthHouse().passed(), NONE);
        sentence(0, "PASSED: more than half of those HEARD are yes: parts likewise.");
        asks("mk1;m", "none HEARD", x -> x.passed(), 0);
        asks("m;m", "one HEARD, yes", x -> x.passed(), 100);
        asks("m;mv0", "one HEARD, no", x -> x.passed(), 0);
        for (int many = 2; many <= 7; many++) {
            for (int yes = 0; yes <= many; yes++) {
                long parts = yes * 2 > many ? power(100, many) : 0;
                asks(voting(many, yes, ""), "passed()", x -> x.passed(), parts);
            }
        }
        asks(voting(2, 2, "e50"), "both of two", x -> x.passed(), 2500);
        asks(voting(4, 4, "e50"), "three or four of four", x -> x.passed(), 5 * power(50, 4));
        asks(voting(7, 0, "e99"), "four to seven of seven, all but sure",
                x -> x.passed(), power(99, 7) + 7 * power(99, 6) + 21 * power(99, 5) + 35 * power(99, 4));
    }

    private static void turners() {
        sentence(16, "NONE: none is HEARD, no HOUSE.");
        due("without a HOUSE", new MouthHouse().turner(), NONE);
        asks("mk1;mk1", "all dead", x -> x.turner(), NONE);
        asks("m;mk1", "one not dead", x -> x.turner(), NONE);
        asks("r;m;mk1", "one not dead in a ring", x -> x.turner(), NONE);
        asks("mk3;m", "the deaf first", x -> x.turner(), NONE);
        asks("mn1;m", "an enemy first", x -> x.turner(), NONE);
        asks("m;m", "one HEARD", x -> x.turner(), 1);
        asks("m;mv0", "one HEARD, a no", x -> x.turner(), 1);
        asks("m;mk3;m", "one HEARD of three", x -> x.turner(), 1);
        sentence(0, "of several the lowest MEMBER");
        asks("m;m;m;m;m;m;m", "no ERRORS in a row", x -> x.turner(), 1);
        asks("r;m;m;m;m;m;m;m", "no ERRORS in a ring", x -> x.turner(), 0);
        asks("me20;me20;m", "ERRORS alike", x -> x.turner(), 1);
        MouthHouse turned = house("me20;me20;me20");
        turned.sit(210);
        due("by MEMBERS, not by SEATS", turned.turner(), 0);
        asks("me20;me21;m", "more by the second", x -> x.turner(), 2);
        asks("me21;me20;m", "more by the first", x -> x.turner(), 1);
        sentence(0, "(0 there) the parts by which what comes out PASSES just as without ERRORS (PASSED or not) are most");
        // no ERROR at all: none is worse off without its own, though a no could turn it and the yes could not
        asks("m;mv0;mv0;m", "0 there", x -> x.turner(), 1);
        asks("m;mv0;m;m", "0 there", x -> x.turner(), 1);
        // 1 yes by 10, 2 no by 40: half is not PASSED; only 2's ERROR could make it so
        asks("me10;me40;mv0", "not PASSED", x -> x.turner(), 2);
        asks("me40;me10;mv0", "not PASSED, 2's ERROR small", x -> x.turner(), 2);
        asks("me40;mv0e10;m", "not PASSED, 1 is the no", x -> x.turner(), 1);
        // nobody's word comes by the last one's mouth
        asks("m;me1;me99", "an ERROR that nobody's word meets", x -> x.turner(), 2);
        asks("me99k2;me1;m", "a dummy's is 0 already", x -> x.turner(), 2);
        // three yes: without 3's ERROR of 99 both others, of 1, must not both be wrong
        asks("me1;me1;me99;m", "the one great ERROR", x -> x.turner(), 3);
    }

    private static void bribe(String text, int cost, int who) {
        asks(text, "bribe(0)", x -> x.bribe(0), cost);
        asks(text, "bribe(1)", x -> x.bribe(1), who);
    }

    private static void bribes() {
        sentence(17, "NONE: it can't be, no HOUSE, no such what.");
        due("bribe(0) without a HOUSE", new MouthHouse().bribe(0), NONE);
        due("bribe(1) without a HOUSE", new MouthHouse().bribe(1), NONE);
        due("bribe(2) without a HOUSE", new MouthHouse().bribe(2), NONE);
        for (int far : FAR) {
            asks("m;m", "bribe(" + far + ")", x -> x.bribe(far), NONE);
            asks("mk1;m", "bribe(" + far + ")", x -> x.bribe(far), NONE);
        }
        bribe("mk1;mk1", NONE, NONE);
        bribe("mv0;mk1", NONE, NONE);
        bribe("r;mv0;mk1", NONE, NONE);
        bribe("mk3;mv0", NONE, NONE);
        bribe("mn1;mv0", NONE, NONE);
        bribe("r;mv0n1;mv0n0", NONE, NONE);
        bribe("m;mv0", 10, 2);
    }

    private static void bribed() {
        sentence(0, "BRIBE: the set of MEMBERS (bits) not dead, told yes in place of no, that costs least so that it "
                + "PASSES without ERRORS (of several the least bits): what it costs, who.");
        for (int many = 2; many <= 7; many++) {
            for (int yes = 0; yes <= many; yes++) {
                int more = Math.max(0, many / 2 + 1 - yes);
                bribe(voting(many, yes, "b99e99"), 99 * more, (1 << more) - 1 << yes);
                bribe(voting(many, yes, "b0"), 0, (1 << more) - 1 << yes);
            }
        }
        bribe("m;m", 0, 0);
        bribe("m;mv1b0;mv1", 0, 0);
        // 1 of 2 is not more than half
        bribe("m;m;mv0b7", 7, 4);
        // the first is not HEARD, the third not dead, the fourth dead
        bribe("mv0b0;mv0b5;mv0b9;mv0b0k1", 14, 6);
        bribe("r;mv0b5;mv0b5;m", 5, 1);
        bribe("r;mv0b9;mv0b5;mv0b5;m;m", 5, 2);
        bribe("r;mv0b1;mv0b2;mv0b3;m", 3, 3);
        bribe("r;mv0b3;mv0b2;mv0b1;m", 3, 6);
        bribe("r;mv0b3;mv0b3;mv0b0;m", 3, 5);
        // 3 costs nothing but is swallowed
        bribe("r;mv0b1;mv0b8;mv0b9n3;mv0b0;m", 9, 3);
    }

    private static void knowing() {
        sentence(23, "NONE: no such SEAT, there are 20.");
        due("without a HOUSE", new MouthHouse().know(0, true), NONE);
        for (int many = 2; many <= 7; many++) {
            MouthHouse x = plain(many, true);
            due("know(-1, true)", x.know(-1, true), NONE);
            due("one more", x.know(many, false), NONE);
            due("count(6)", x.count(6), 0);
            due("the last", x.know(many - 1, true), 1);
            due("the first", x.know(0, false), 2);
        }
        MouthHouse x = plain(2, true);
        for (int far : new int[] {-1, 2, 7, 10, LOWEST, HIGHEST}) {
            due("know(" + far + ", true)", x.know(far, true), NONE);
        }
        sentence(0, "KNOWN (20 at most)");
        for (int i = 1; i <= 20; i++) {
            due("know(0, true)", x.know(0, true), i);
            due("count(6)", x.count(6), i);
        }
        due("a 21st, as it is known", x.know(0, true), NONE);
        due("a 21st, of another SEAT", x.know(1, false), NONE);
        due("a 21st, which would fit nothing", x.know(0, false), NONE);
        due("count(6)", x.count(6), 20);
        due("fits(-1)", x.fits(-1), 2);
        MouthHouse last = plain(2, true);
        for (int i = 1; i <= 19; i++) {
            last.know(0, true);
        }
        due("fits(-1) by 19", last.fits(-1), 2);
        due("the 20th", last.know(1, false), 20);
        due("fits(-1) by the 20th, too", last.fits(-1), 1);
        sentence(23, "KNOWN: how many there are.");
        due("text(0)", told(x, 0, "m;m"), 2);
        due("of another HOUSE", x.know(0, true), 1);
        due("a SEAT out of which nothing comes", x.know(1, true), 2);
    }

    private static void fitting() {
        sentence(24, "NONE: no such one, no HOUSE.");
        for (int i : new int[] {-1, 0, -2, LOWEST, HIGHEST}) {
            due("fits(" + i + ") without a HOUSE", new MouthHouse().fits(i), NONE);
        }
        for (int many = 2; many <= 7; many++) {
            MouthHouse x = plain(many, false);
            int rows = 1 << many;
            due("fits(NONE), none KNOWN", x.fits(NONE), rows);
            due("the first", x.fits(0), 0);
            due("the second", x.fits(1), 1);
            due("the last", x.fits(rows - 1), rows - 1);
            for (int i : new int[] {rows, rows + 1, -2, -3, LOWEST, HIGHEST}) {
                due("fits(" + i + ")", x.fits(i), NONE);
            }
        }
        sentence(0, "rows of VOTES of all MEMBERS (bits: yes) by which without ERRORS all KNOWN came out there");
        MouthHouse ring = house("r;me99;me99;me99");
        due("the last one's mouth", ring.know(2, true), 1);
        int[] rows = {1, 3, 5, 7};
        for (int i = 0; i < 4; i++) {
            due("fits(" + i + ")", ring.fits(i), rows[i]);
        }
        due("fits(4)", ring.fits(4), NONE);
        ring.know(0, false);
        due("fits(NONE)", ring.fits(NONE), 2);
        due("fits(0)", ring.fits(0), 1);
        due("fits(1)", ring.fits(1), 5);
        due("fits(2)", ring.fits(2), NONE);
        ring.know(1, false);
        due("all are KNOWN", ring.fits(NONE), 1);
        due("fits(0)", ring.fits(0), 1);
        due("fits(1)", ring.fits(1), NONE);
        ring.know(1, true);
        due("yes and no", ring.fits(NONE), 0);
        due("fits(0)", ring.fits(0), NONE);
        // the VOTES as they are told do not matter
        MouthHouse no = house("mv0;mv0");
        no.know(0, true);
        due("fits(0)", no.fits(0), 2);
        due("fits(1)", no.fits(1), 3);
        // those that say nothing, the dead, too, may have voted anyhow
        MouthHouse dead = house("m;m;mk1");
        dead.know(0, true);
        due("fits(NONE)", dead.fits(NONE), 4);
        due("fits(3)", dead.fits(3), 7);
    }

    private static void nothing(String text, int seat) {
        for (boolean yes : new boolean[] {false, true}) {
            MouthHouse x = house(text);
            due("know(" + seat + ", " + yes + ")", x.know(seat, yes), 1);
            due("fits(NONE) of " + text, x.fits(NONE), 0);
            due("fits(0) of " + text, x.fits(0), NONE);
            due("sure(true) of " + text, x.sure(true), NONE);
            due("sure(false) of " + text, x.sure(false), NONE);
        }
    }

    private static void nothingComes() {
        sentence(0, "(a SEAT out of whose mouth nothing comes: none)");
        nothing("m;m", 1);
        nothing("m;m;m;m;m;m;m", 6);
        nothing("mk3;m", 0);
        nothing("mk1;m", 0);
        nothing("mn1;m", 0);
        nothing("r;m;mk1", 0);
        nothing("r;m;mk1", 1);
        nothing("mk1;mk1", 0);
        nothing("m;mk1;m", 1);
        nothing("m;mk1;m", 2);
        nothing("r;m;m;mn0", 2);
        nothing("m;m;mk1", 1);
    }

    private static void weighedWhenAsked() {
        sentence(0, "by the SEATING and KINDS as they are when it is asked");
        MouthHouse x = house("m;m;m");
        x.know(0, true);
        x.know(1, false);
        due("sure(true)", x.sure(true), 2);
        due("sure(false)", x.sure(false), 4);
        x.sit(210);
        due("another SEATING", x.sure(true), 2);
        due("another SEATING", x.sure(false), 1);
        x.sit(102);
        due("another SEATING", x.sure(true), 1);
        due("another SEATING", x.sure(false), 4);
        x.sit(210);
        x.set(0, 1, 1);
        due("one dies, nothing comes there", x.fits(NONE), 0);
        x.set(0, 1, 0);
        due("it lives again", x.fits(NONE), 2);
        x.set(1, 1, 3);
        due("one is deaf, nothing comes there", x.fits(NONE), 0);
        due("sure(true)", x.sure(true), NONE);
        x.set(1, 1, 2);
        due("a dummy", x.fits(NONE), 2);
        due("KNOWN stay as they are", x.count(6), 2);
        x.set(2, 0, 0);
        x.set(1, 0, 0);
        due("VOTES do not matter", x.fits(NONE), 2);
    }

    private static void sure() {
        sentence(25, "NONE: none FITS, no HOUSE.");
        due("sure(true) without a HOUSE", new MouthHouse().sure(true), NONE);
        due("sure(false) without a HOUSE", new MouthHouse().sure(false), NONE);
        MouthHouse both = plain(2, true);
        both.know(0, true);
        both.know(0, false);
        due("sure(true), none FITS", both.sure(true), NONE);
        due("sure(false), none FITS", both.sure(false), NONE);
        sentence(0, "SURE: MEMBERS (bits) that voted yes in all; no in all.");
        for (int many = 2; many <= 7; many++) {
            MouthHouse x = plain(many, true);
            due("sure(true), none KNOWN", x.sure(true), 0);
            due("sure(false), none KNOWN", x.sure(false), 0);
            for (int s = 0; s < many; s++) {
                x.know(s, true);
            }
            due("sure(true), all yes", x.sure(true), (1 << many) - 1);
            due("sure(false), all yes", x.sure(false), 0);
        }
        MouthHouse no = plain(7, true);
        for (int s = 0; s < 7; s++) {
            no.know(s, false);
        }
        due("sure(true), all no", no.sure(true), 0);
        due("sure(false), all no", no.sure(false), 127);
        MouthHouse one = plain(7, true);
        one.know(6, true);
        one.know(2, false);
        due("sure(true)", one.sure(true), 1);
        due("sure(false)", one.sure(false), 8);
    }
}
