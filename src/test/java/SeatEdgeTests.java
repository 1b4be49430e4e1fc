/** Edges of SEATS, mouths, a word that goes round, yawns: ==== 2 of the Terms, promises 6 to 12, 18, 19. */
public final class SeatEdgeTests extends Edge {
    /** What no MEMBER, SEAT, what is numbered, whatever the HOUSE. */
    private static final int[] FAR = {-1, 7, 8, 10, 32, 256, -2, -100000000, LOWEST, HIGHEST, LOWEST + 1, HIGHEST - 1};

    public static void main(String[] args) {
        members();
        seats();
        whichManners();
        setting();
        exchanges();
        seatings();
        lefts();
        mouths();
        swallowed();
        rounds();
        roundParts();
        roundEnds();
        yawns();
        allYawns();
        close();
    }

    private static void members() {
        sentence(6, "NoSuchElementException: no such ones.");
        for (int what = -1; what <= 10; what++) {
            member(new MouthHouse(), 0, what, THROWN);
        }
        for (int many = 2; many <= 7; many++) {
            MouthHouse x = plain(many, false);
            for (int what = 0; what < 10; what++) {
                member(x, -1, what, THROWN);
                member(x, many, what, THROWN);
                due("the last one has it", member(x, many - 1, what) != THROWN, true);
                due("the first one has it", member(x, 0, what) != THROWN, true);
            }
            member(x, 0, -1, THROWN);
            member(x, 0, 10, THROWN);
        }
        MouthHouse seven = plain(7, true);
        for (int far : FAR) {
            member(seven, far, 0, THROWN);
            member(seven, far, 9, THROWN);
            member(seven, far, far, THROWN);
        }
        for (int what : new int[] {-1, 10, 11, LOWEST, HIGHEST}) {
            member(seven, 0, what, THROWN);
            member(seven, 7, what, THROWN);
        }
        sentence(6, "Of a MEMBER: 0 VOTE, 1 DELAY, 2 ERROR, 3 KIND, 4 ENEMY (7: none), 5 YAWN, 6 what it costs, "
                + "7 its SEAT, 8 its MOUTH (the MEMBER; NONE), 9 whether it is HEARD (1, 0).");
        MouthHouse x = house("mv0d20e99k3n6y20b99;m;m;m;m;m;m");
        x.sit(6543210);
        int[] all = {0, 20, 99, 3, 6, 20, 99, 6, 1, 1};
        int[] last = {1, 1, 0, 0, 7, 3, 10, 0, NONE, 0};
        for (int what = 0; what < 10; what++) {
            member(x, 0, what, all[what]);
            member(x, 6, what, last[what]);
        }
        // what is told stays told: a dummy's ERROR too, and what the dead were
        member(house("me40k2;m"), 0, 2, 40);
        member(house("mv0e40k1;m"), 0, 2, 40);
        member(house("mv0e40k1;m"), 0, 0, 0);
    }

    private static void seats() {
        sentence(7, "NONE: no such one.");
        due("without a HOUSE", new MouthHouse().seat(0), NONE);
        for (int many = 2; many <= 7; many++) {
            MouthHouse x = plain(many, many % 2 == 0);
            due("seat(-1)", x.seat(-1), NONE);
            due("seat(0)", x.seat(0), 0);
            due("the last", x.seat(many - 1), many - 1);
            due("one more, in a ring too", x.seat(many), NONE);
            for (int far : FAR) {
                due("seat(" + far + ")", x.seat(far), NONE);
            }
        }
        sentence(0, "SEATS are numbered from the left, from 0, as many as MEMBERS; at first MEMBER s sits on SEAT s");
        MouthHouse x = plain(7, false);
        for (int s = 0; s < 7; s++) {
            due("seat(" + s + ")", x.seat(s), s);
            member(x, s, 7, s);
        }
        x.sit(3160245);
        int[] on = {3, 1, 6, 0, 2, 4, 5};
        for (int s = 0; s < 7; s++) {
            due("seat(" + s + ")", x.seat(s), on[s]);
            member(x, on[s], 7, s);
        }
    }

    private static void whichManners() {
        sentence(8, "False: no such ones.");
        MouthHouse x = new MouthHouse();
        due("manners(0), none told", x.manners(0), false);
        due("manners(-2)", x.manners(-2), false);
        for (int told = 1; told <= 4; told++) {
            due("text(1)", told(x, 1, "y:" + told), told - 1);
            due("the last ones", x.manners(told - 1), true);
            due("count(5)", x.count(5), told - 1);
            due("one more", x.manners(told), false);
            for (int far : new int[] {-2, 4, 5, LOWEST, HIGHEST}) {
                due("manners(" + far + ")", x.manners(far), false);
            }
            due("count(5)", x.count(5), told - 1);
        }
        due("the first ones", x.manners(0), true);
        due("again", x.manners(0), true);
        sentence(8, "Which MANNERS hold (NONE: none).");
        due("text(0)", told(x, 0, "mn1;m"), 2);
        due("ill() by the first", x.ill(), 1);
        due("manners(3)", x.manners(3), true);
        due("ill() by the fourth", x.ill(), 4);
        due("manners(NONE)", x.manners(NONE), true);
        due("count(5)", x.count(5), NONE);
        due("ill() by none: enemies", x.ill(), 1);
        due("manners(NONE) again", x.manners(NONE), true);
        due("manners(NONE) of a new one", new MouthHouse().manners(NONE), true);
    }

    private static void setting() {
        sentence(9, "False: no such ones, out of bounds, it is so.");
        due("without a HOUSE", new MouthHouse().set(0, 0, 0), false);
        for (int many = 2; many <= 7; many++) {
            MouthHouse x = plain(many, false);
            due("the last one", x.set(many - 1, 0, 0), true);
            due("one more", x.set(many, 0, 0), false);
            due("set(-1, 0, 0)", x.set(-1, 0, 0), false);
        }
        MouthHouse x = plain(2, false);
        for (int far : FAR) {
            due("set(" + far + ", 0, 0)", x.set(far, 0, 0), false);
            due("set(" + far + ", 1, 1)", x.set(far, 1, 1), false);
            due("set(0, " + far + ", 0)", x.set(0, far, 0), false);
            due("set(0, 0, " + far + ")", x.set(0, 0, far), false);
            due("set(0, 1, " + far + ")", x.set(0, 1, far), false);
        }
        for (int what = 2; what < 10; what++) {
            due("set(0, " + what + ", 0)", x.set(0, what, 0), false);
            due("set(0, " + what + ", 2)", x.set(0, what, 2), false);
        }
        due("a VOTE of 2", x.set(0, 0, 2), false);
        due("a KIND of 4", x.set(0, 1, 4), false);
        due("a VOTE as it is", x.set(0, 0, 1), false);
        due("another VOTE", x.set(0, 0, 0), true);
        due("a VOTE as it is", x.set(0, 0, 0), false);
        due("another VOTE", x.set(0, 0, 1), true);
        due("a KIND as it is", x.set(0, 1, 0), false);
        sentence(9, "A MEMBER's VOTE (what 0), KIND (1).");
        for (int from = 0; from < 4; from++) {
            for (int to = 0; to < 4; to++) {
                MouthHouse y = house("mk" + from + ";m");
                due("KIND " + from + " to " + to, y.set(0, 1, to), from != to);
                member(y, 0, 3, to);
                member(y, 0, 0, 1);
                member(y, 1, 3, 0);
            }
        }
        MouthHouse dead = house("m;mk1");
        due("the dead have a VOTE", dead.set(1, 0, 0), true);
        member(dead, 1, 0, 0);
        due("the dead can live", dead.set(1, 1, 0), true);
        member(dead, 1, 9, 1);
        due("count(4)", dead.count(4), 1);
    }

    private static void exchanges() {
        sentence(10, "False: no such ones, alike.");
        due("without a HOUSE", new MouthHouse().change(0, 1), false);
        for (int many = 2; many <= 7; many++) {
            MouthHouse x = plain(many, true);
            int was = x.count(4);
            for (int s = 0; s < many; s++) {
                due("change(" + s + ", " + s + ")", x.change(s, s), false);
                due("change(" + s + ", " + many + ")", x.change(s, many), false);
                due("change(" + many + ", " + s + ")", x.change(many, s), false);
                due("change(" + s + ", -1)", x.change(s, -1), false);
                due("change(-1, " + s + ")", x.change(-1, s), false);
            }
            due("count(4)", x.count(4), was);
        }
        MouthHouse x = plain(7, false);
        for (int far : FAR) {
            due("change(0, " + far + ")", x.change(0, far), false);
            due("change(" + far + ", 0)", x.change(far, 0), false);
            due("change(" + far + ", " + far + ")", x.change(far, far), false);
        }
        sentence(10, "Two SEATS are changed.");
        due("the first and the last", x.change(0, 6), true);
        due("count(4)", x.count(4), 6123450);
        due("SEATS, not MEMBERS", x.change(5, 0), true);
        due("count(4)", x.count(4), 5123460);
        due("there and back", x.change(0, 5) && x.change(6, 0), true);
        due("count(4)", x.count(4), 123456);
    }

    private static boolean isRowOf(int digits, int many) {
        int seen = 0;
        int rest = digits;
        for (int s = 0; s < many; s++) {
            seen |= rest >= 0 ? 1 << rest % 10 : 0;
            rest /= 10;
        }
        return digits >= 0 && rest == 0 && seen == (1 << many) - 1;
    }

    private static void seatings() {
        sentence(11, "False: no such one.");
        due("sit(0) without a HOUSE", new MouthHouse().sit(0), false);
        due("sit(1) without a HOUSE", new MouthHouse().sit(1), false);
        for (int many = 2; many <= 4; many++) {
            MouthHouse x = plain(many, false);
            int sitting = x.count(4);
            for (int digits = -4000; digits < 14000; digits += 1) {
                if (digits % 100 == 0) {
                    x = plain(many, false);
                    sitting = x.count(4);
                }
                boolean fine = isRowOf(digits, many);
                sitting = fine ? digits : sitting;
                due("sit(" + digits + ") of " + many, x.sit(digits), fine);
                due("count(4)", x.count(4), sitting);
            }
        }
        MouthHouse x = plain(7, false);
        int[] wrong = {-123456, 12345, 1234567, 123457, 123455, 1123456, 10123456, 7123456, 66, -1, 0, 6543211,
            2147450123, 1000000000, LOWEST, HIGHEST, LOWEST + 123456};
        for (int digits : wrong) {
            due("sit(" + digits + ")", x.sit(digits), false);
        }
        due("count(4)", x.count(4), 123456);
        sentence(11, "The SEATING is told.");
        due("sit(6543210)", x.sit(6543210), true);
        due("count(4)", x.count(4), 6543210);
        due("as it is", x.sit(6543210), true);
        sentence(0, "SEATING: digits to the base 10, the MEMBER of each SEAT, SEAT 0 the highest");
        due("MEMBER 0 on SEAT 0", x.sit(654321), true);
        due("count(4)", x.count(4), 654321);
        due("seat(0)", x.seat(0), 0);
        due("seat(1)", x.seat(1), 6);
        due("seat(6)", x.seat(6), 1);
        asks("m;m", "count(4)", y -> y.count(4), 1);
    }

    private static void lefts() {
        sentence(0, "To the left of a SEAT is the one before it; of SEAT 0, in a ring, the last one, else none.");
        for (int many = 2; many <= 7; many++) {
            MouthHouse row = plain(many, false);
            MouthHouse ring = plain(many, true);
            for (int m = 0; m < many; m++) {
                member(row, m, 8, m - 1);
                member(row, m, 9, m == 0 ? 0 : 1);
                member(ring, m, 8, m == 0 ? many - 1 : m - 1);
                member(ring, m, 9, 1);
            }
        }
        MouthHouse ring = plain(4, true);
        ring.sit(2031);
        int[] mouths = {2, 3, 1, 0};
        for (int m = 0; m < 4; m++) {
            member(ring, m, 8, mouths[m]);
        }
    }

    /** Seven, of whom only those in the bits are not dead. */
    private static MouthHouse survivors(int bits, boolean ring) {
        StringBuilder text = new StringBuilder(ring ? "r" : "");
        for (int m = 0; m < 7; m++) {
            text.append(text.length() > 0 ? ";m" : "m").append((bits >> m & 1) == 1 ? "" : "k1");
        }
        return house(text.toString());
    }

    private static void mouths() {
        sentence(0, "The MOUTH of a MEMBER that is not dead: the first one to its left that is not dead");
        for (int one = 0; one < 7; one++) {
            for (int other = one + 1; other < 7; other++) {
                int bits = 1 << one | 1 << other;
                MouthHouse row = survivors(bits, false);
                member(row, one, 8, NONE);
                member(row, other, 8, one);
                MouthHouse ring = survivors(bits, true);
                member(ring, one, 8, other);
                member(ring, other, 8, one);
            }
        }
        sentence(0, "(in a ring others alone); none, if there is none");
        for (int one = 0; one < 7; one++) {
            for (boolean ring : new boolean[] {false, true}) {
                MouthHouse x = survivors(1 << one, ring);
                member(x, one, 8, NONE);
                member(x, one, 9, 0);
                due("tally(0)", x.tally(0), 0);
                due("round(one, 0, 0)", x.round(one, 0, 0), one);
                due("round(one, 1, 0)", x.round(one, 1, 0), NONE);
            }
        }
        sentence(0, "Who is dead says nothing");
        MouthHouse none = survivors(0, true);
        for (int m = 0; m < 7; m++) {
            member(none, m, 8, NONE);
            member(none, m, 9, 0);
        }
        due("tally(0), all dead", none.tally(0), 0);
        MouthHouse x = house("m;mk1v0;m");
        member(x, 1, 8, NONE);
        member(x, 1, 9, 0);
        due("tally(0)", x.tally(0), 1);
        due("odds(1)", x.odds(1), 100);
    }

    private static void swallowed() {
        sentence(0, "A word is SWALLOWED by a MOUTH that is deaf, or whose ENEMY is the MEMBER itself.");
        MouthHouse deaf = house("mk3;m;m");
        member(deaf, 1, 8, 0);
        member(deaf, 1, 9, 0);
        member(deaf, 2, 9, 1);
        MouthHouse enemy = house("mn1;m;m");
        member(enemy, 1, 8, 0);
        member(enemy, 1, 9, 0);
        member(enemy, 2, 9, 1);
        // who hates its MOUTH is HEARD all the same; so is who is hated by another one
        member(house("m;mn0"), 1, 9, 1);
        member(house("mn2;m;m"), 1, 9, 1);
        member(house("mn2;m;m"), 2, 9, 1);
        member(house("m;mk3"), 1, 9, 1);
        member(house("mk2;m"), 1, 9, 1);
        // round the ring, and by one that sits left of the dead
        member(house("r;m;m;mk3"), 0, 9, 0);
        member(house("r;m;m;mn0"), 0, 9, 0);
        member(house("mn2;mk1;m"), 2, 9, 0);
        member(house("m;mk1n2;m"), 2, 9, 1);
        // its own ENEMY is nobody's trouble, not even alone in a ring
        member(house("r;mn0;m"), 0, 9, 1);
        member(house("r;mn0;m"), 1, 9, 1);
        member(house("r;mn0;mk1"), 0, 9, 0);
    }

    private static void rounds() {
        sentence(12, "it ended ahead, no such ones (steps 0 .. 7)");
        due("without a HOUSE", new MouthHouse().round(0, 0, 0), NONE);
        MouthHouse ring = plain(2, true);
        for (int steps = 0; steps <= 7; steps++) {
            due("round(0, " + steps + ", 0)", ring.round(0, steps, 0), steps % 2);
        }
        for (int what = 0; what <= 2; what++) {
            due("eight steps", ring.round(0, 8, what), NONE);
            due("-1 steps", ring.round(0, -1, what), NONE);
            due("no such MEMBER", ring.round(2, 0, what), NONE);
            due("no such MEMBER", ring.round(-1, 0, what), NONE);
        }
        for (int far : FAR) {
            due("round(" + far + ", 0, 0)", ring.round(far, 0, 0), NONE);
            due("round(0, " + far + ", 0)", ring.round(0, far, 0), far == 7 ? 1 : NONE);
            due("round(0, 0, " + far + ")", ring.round(0, 0, far), NONE);
        }
        due("what 3", ring.round(0, 0, 3), NONE);
        due("what -1", ring.round(0, 0, -1), NONE);
        for (int many = 2; many <= 7; many++) {
            MouthHouse row = plain(many, false);
            MouthHouse round = plain(many, true);
            for (int steps = 0; steps <= 7; steps++) {
                int last = many - 1 - steps;
                due("in a row of " + many, row.round(many - 1, steps, 0), last >= 0 ? last : NONE);
                due("in a ring of " + many, round.round(many - 1, steps, 0), Math.floorMod(last, many));
            }
            due("one more", row.round(many, 0, 0), NONE);
        }
        due("the dead have none", house("mk1;m").round(0, 0, 0), NONE);
        due("the dead have none", house("mk1;m").round(0, 0, 2), NONE);
    }

    private static void roundParts() {
        sentence(0, "behind j steps (0 .. 7): SEAT, MINUTE, and of 100 to the j parts as many by which it is right "
                + "(two errors make it right again)");
        MouthHouse sure = plain(7, true);
        long whole = 1;
        for (int steps = 0; steps <= 7; steps++) {
            due("never wrong", sure.round(0, steps, 2), whole);
            whole *= 100;
        }
        // (100^j + (100 - 2e)^j) / 2 parts are right
        due("99 of 100, seven times", house("r;me99;me99").round(0, 7, 2), (100000000000000L - 86812553324672L) / 2);
        due("99 of 100, twice", house("r;me99;me99").round(0, 2, 2), 9802);
        due("99 of 100, once", house("r;me99;me99").round(0, 1, 2), 1);
        due("50 of 100, seven times", house("r;me50;me50").round(0, 7, 2), 50000000000000L);
        due("a half and then none", house("m;me50;m").round(2, 2, 2), 5000);
        due("nothing is said yet", house("me99;me99").round(0, 0, 2), 1);
        sentence(0, "its word comes out of its MOUTH DELAY of that one later, wrong by ERROR of that one");
        due("20 each, seven times", house("r;md20;md20").round(1, 7, 1), 140);
        due("0 each, seven times", house("r;md0;md0").round(1, 7, 1), 0);
        due("not its own DELAY", house("md3;md20").round(1, 1, 1), 3);
        due("not its own ERROR", house("me3;me20").round(1, 1, 2), 97);
        due("no step, no MINUTE", house("md20;md20").round(1, 0, 1), 0);
        due("round and round", house("r;md1;md5").round(0, 7, 1), 4 * 5 + 3);
        sentence(0, "a dummy's mouth makes no ERROR (ERROR 0 in place of its own)");
        due("a dummy", house("me99k2d4;m").round(1, 1, 2), 100);
        due("it has its DELAY", house("me99k2d4;m").round(1, 1, 1), 4);
        due("odds(1)", house("me99k2;m").odds(1), 100);
        due("what a dummy says comes by its MOUTH", house("me99;mk2").round(1, 1, 2), 1);
    }

    private static void roundEnds() {
        sentence(0, "it ends if there is no MOUTH, or it is SWALLOWED by it");
        MouthHouse row = house("m;m;m");
        due("to the first", row.round(2, 2, 0), 0);
        for (int what = 0; what <= 2; what++) {
            due("past the first", row.round(2, 3, what), NONE);
            due("past the first", row.round(0, 1, what), NONE);
            due("far past the first", row.round(2, 7, what), NONE);
        }
        MouthHouse deaf = house("m;mk3;m;m");
        due("beside the deaf", deaf.round(3, 1, 0), 2);
        due("by the deaf", deaf.round(3, 2, 0), NONE);
        due("from the deaf", deaf.round(1, 1, 0), 0);
        MouthHouse enemy = house("r;m;mn2;m");
        due("beside the enemy", enemy.round(0, 1, 0), 2);
        due("by the enemy", enemy.round(0, 2, 0), NONE);
        due("from the enemy", enemy.round(1, 2, 0), 2);
        due("and round to the enemy", enemy.round(1, 3, 0), NONE);
        // at each step it is that one's own word: whose ENEMY spoke it first does not matter
        due("an enemy two steps on", house("mn2;m;m").round(2, 2, 0), 0);
        due("round, to itself", house("r;m;m;m").round(1, 3, 0), 1);
        due("past the dead, round the ring", house("r;mk1;m;mk1;m;mk1").round(1, 7, 0), 3);
        due("alone in a ring", house("r;mk1;m").round(1, 1, 0), NONE);
    }

    private static void yawns() {
        sentence(18, "NONE: never, no such ones, that one is dead.");
        due("without a HOUSE", new MouthHouse().yawn(0, 0), NONE);
        MouthHouse x = house("m;m;mk1;m;my0");
        for (int far : FAR) {
            due("yawn(" + far + ", 0)", x.yawn(far, 0), NONE);
            due("yawn(0, " + far + ")", x.yawn(0, far), NONE);
        }
        due("yawn(5, 0)", x.yawn(5, 0), NONE);
        due("yawn(0, 5)", x.yawn(0, 5), NONE);
        due("yawn(4, 4)", x.yawn(4, 4), 0);
        due("from the dead", x.yawn(2, 1), NONE);
        due("from the dead to itself", x.yawn(2, 2), NONE);
        due("the dead never do", x.yawn(1, 2), NONE);
        due("nor do those behind them", x.yawn(0, 3), NONE);
        due("YAWN 0 never does", x.yawn(3, 4), NONE);
        sentence(0, "it yawns at MINUTE 0; each other one that is not dead, YAWN above 0, so many MINUTES after "
                + "the first one beside it (the SEATS just left and right; a dead one yawns never) did");
        due("one of YAWN 0 yawns first", house("my0;m").yawn(0, 0), 0);
        due("and is seen", house("my0;m").yawn(0, 1), 3);
        due("YAWN 1", house("m;my1").yawn(0, 1), 1);
        due("YAWN 20", house("m;my20").yawn(0, 1), 20);
        due("not one's own", house("my20;m").yawn(0, 1), 3);
        due("to the left", house("my4;m").yawn(1, 0), 4);
        due("in a row the last is not beside the first", house("m;my0;m").yawn(0, 2), NONE);
        due("in a ring it is", house("r;m;my0;m").yawn(0, 2), 3);
        due("and the first beside the last", house("r;my5;my0;m").yawn(2, 0), 5);
        due("both sides are one in a ring of two", house("r;m;m").yawn(1, 0), 3);
        due("across the dead, round the ring", house("r;m;mk1;m").yawn(0, 2), 3);
        due("the deaf and dummies do", house("mk3;mk2").yawn(0, 1), 3);
        due("and are seen", house("mk3;mk2;m").yawn(0, 2), 6);
        MouthHouse ring = house("r;m;my2;my1;my7");
        int[] at = {0, 2, 3, 7};
        for (int m = 0; m < 4; m++) {
            due("the first beside it", ring.yawn(0, m), at[m]);
        }
        MouthHouse moved = house("m;my1;my5");
        due("yawn(0, 2)", moved.yawn(0, 2), 6);
        moved.sit(21);
        due("by SEATS", moved.yawn(0, 2), 5);
        due("by SEATS", moved.yawn(0, 1), 6);
    }

    private static void allYawns() {
        sentence(19, "NONE: no such ones, dead.");
        due("without a HOUSE", new MouthHouse().yawns(0, 0), NONE);
        MouthHouse x = house("m;mk1;m");
        for (int far : FAR) {
            due("yawns(" + far + ", 0)", x.yawns(far, 0), NONE);
            due("yawns(0, " + far + ")", x.yawns(0, far), NONE);
        }
        due("yawns(3, 1)", x.yawns(3, 1), NONE);
        due("yawns(0, 2)", x.yawns(0, 2), NONE);
        due("from the dead", x.yawns(1, 0), NONE);
        due("from the dead", x.yawns(1, 1), NONE);
        sentence(0, "ALL: the MINUTE of the last; SLEEPY: who never does (bits; the dead, too).");
        due("only itself", x.yawns(0, 0), 0);
        due("all others", x.yawns(0, 1), 6);
        due("all others", x.yawns(2, 1), 3);
        MouthHouse slow = house("my20;my20;my20;my20;my20;my20;my20");
        due("the longest", slow.yawns(0, 0), 120);
        due("none sleepy", slow.yawns(0, 1), 0);
        due("from the middle", slow.yawns(3, 0), 60);
        due("in a ring", house("r;my20;my20;my20;my20;my20;my20;my20").yawns(0, 0), 60);
        MouthHouse never = house("my0;my0;my0;my0;my0;my0;my0");
        due("all but one", never.yawns(6, 1), 63);
        due("all but one", never.yawns(0, 1), 126);
        due("only itself", never.yawns(0, 0), 0);
        due("the last, not the farthest", house("my9;m;my1").yawns(1, 0), 9);
        due("all dead but one", survivors(64, true).yawns(6, 1), 63);
    }
}
