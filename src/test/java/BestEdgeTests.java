/** Edges of MANNERS' numbers, ILL, BEST SEATINGS, CHANGES: ==== 1 and 3 of the Terms, promises 20 to 22. */
public final class BestEdgeTests extends Edge {
    private static final int[] FAR = {-1, 3, 4, 8, -2, -100000000, LOWEST, HIGHEST};

    public static void main(String[] args) {
        bounds();
        divisions();
        truths();
        clauses();
        letters();
        ills();
        refusedBests();
        leastIll();
        mostHeard();
        longestRound();
        refusedChanges();
        whichExchanges();
        fewest();
        cantBe();
        followed();
        close();
    }

    private static void ill(String house, String manners, int want) {
        due("ill() of " + house + " by " + manners, polite(house, manners).ill(), want);
    }

    /** WORTH of the one pair of two in a row. */
    private static void worth(String manners, int want) {
        ill("m;m", manners, want);
    }

    private static void bounds() {
        sentence(0, "Behind each sign numbers are within -1,000,000 .. 1,000,000");
        worth("y:9999*100+100", 1000000);
        worth("y:9999*100+101", 1000000);
        worth("y:9999*100+100-1", 999999);
        worth("y:9999*100+101-1", 999999);
        worth("y:9999*9999", 1000000);
        worth("y:9999*9999-1", 999999);
        worth("y:9999*9999*9999", 1000000);
        worth("y:0-9999*100-100", -1000000);
        worth("y:0-9999*100-101", -1000000);
        worth("y:0-9999*100-100+1", -999999);
        worth("y:0-9999*100-101+1", -999999);
        worth("y:[0-9999]*9999", -1000000);
        worth("y:[0-9999]*9999+1", -999999);
        worth("y:[0-9999]*[0-9999]", 1000000);
        worth("y:9999*9999*[0-9999]", -1000000);
        worth("y:9999*9999/9999", 100);
        worth("y:[0-9999]*9999/[0-1]", 1000000);
        worth("y:9999*9999+9999*9999-9999*9999", 0);
        worth("y:9999*9999=9998*9999?1;y:2", 1);
        worth("y:9999*9999>9999*101?1;y:2", 2);
        worth("y:9999*9999>9999*100?1;y:2", 1);
        worth("y:0-9999*9999<0-9999*101?1;y:2", 2);
        worth("y:9999", 9999);
        worth("y:0000", 0);
    }

    private static void divisions() {
        sentence(0, "/ cuts towards 0, by 0 gives 0");
        worth("y:7/2", 3);
        worth("y:[0-7]/2", -3);
        worth("y:7/[0-2]", -3);
        worth("y:[0-7]/[0-2]", 3);
        worth("y:1/2", 0);
        worth("y:[0-1]/2", 0);
        worth("y:9/9", 1);
        worth("y:8/9", 0);
        worth("y:5/0", 0);
        worth("y:0/0", 0);
        worth("y:[0-5]/0", 0);
        worth("y:5/0*3+2", 2);
        worth("y:5/[v-w]+4", 4);
        worth("y:9999*9999/0", 0);
        worth("y:100/10/2", 5);
        worth("y:7/2*2", 6);
        worth("y:2*7/2", 7);
    }

    private static void truths() {
        sentence(0, "SUM, one of = < >, SUM.");
        for (int left = 1; left <= 3; left++) {
            worth("y:" + left + "<2?1;y:2", left < 2 ? 1 : 2);
            worth("y:" + left + ">2?1;y:2", left > 2 ? 1 : 2);
            worth("y:" + left + "=2?1;y:2", left == 2 ? 1 : 2);
            worth("y:!" + left + "<2?1;y:2", left < 2 ? 2 : 1);
        }
        sentence(0, "CONDITION: TRUTHS with | between; TRUTH: UNITS with & between");
        String[] truth = {"1=2", "1=1"};
        for (int a = 0; a < 2; a++) {
            for (int b = 0; b < 2; b++) {
                for (int c = 0; c < 2; c++) {
                    boolean orAnd = a == 1 || b == 1 && c == 1;
                    boolean andOr = a == 1 && b == 1 || c == 1;
                    boolean grouped = (a == 1 || b == 1) && c == 1;
                    boolean denied = a == 0 && b == 1 || c == 1;
                    worth("y:" + truth[a] + "|" + truth[b] + "&" + truth[c] + "?1", orAnd ? 1 : 0);
                    worth("y:" + truth[a] + "&" + truth[b] + "|" + truth[c] + "?1", andOr ? 1 : 0);
                    worth("y:(" + truth[a] + "|" + truth[b] + ")&" + truth[c] + "?1", grouped ? 1 : 0);
                    worth("y:!" + truth[a] + "&" + truth[b] + "|" + truth[c] + "?1", denied ? 1 : 0);
                    worth("y:!(" + truth[a] + "&" + truth[b] + "|" + truth[c] + ")?1", andOr ? 0 : 1);
                }
            }
        }
        // each sign's truth is as good as another's
        for (String one : new String[] {"1=1", "1<2", "2>1", "!1=2", "(1=1)", "(1<2|1=1)", "!(2<1&1=1)"}) {
            for (String other : new String[] {"1=1", "1<2", "2>1", "!1=2", "(2>1)", "(1<2|1=1)", "!(2<1&1=1)"}) {
                worth("y:" + one + "&" + other + "?1;y:2", 1);
                worth("y:!(" + one + "&" + other + ")?1;y:2", 2);
                worth("y:" + one + "&!" + other + "?1;y:2", 2);
                worth("y:!" + one + "|" + other + "?1;y:2", 1);
            }
        }
        worth("y:!!!!!!1=1?1;y:2", 1);
        worth("y:!!!!!1=1?1;y:2", 2);
        worth("y:((((((1=1))))))?[[[[[[7]]]]]];y:2", 7);
    }

    private static void clauses() {
        sentence(0, "WORTH: the SUM of the first CLAUSE whose CONDITION holds (or has none), 0 without.");
        worth("y:1=2?5", 0);
        worth("y:1=2?5;y:2=3?6", 0);
        worth("y:1=1?5;y:1=1?6;y:7", 5);
        worth("y:1=2?5;y:1=1?6;y:7", 6);
        worth("y:1=2?5;y:1=2?6;y:7", 7);
        worth("y:7;y:8;y:1=1?9", 7);
        worth("y:1=2?5;y:7;y:1=1?9", 7);
        // the most that a TEXT holds: 160 bytes
        worth("y:" + "1+".repeat(78) + "11", 89);
        worth("y:1=2?9;".repeat(19) + "y:1=1?77", 77);
        worth("y:1=1?1;".repeat(19) + "y:1=1?77", 1);
        worth("y:0;".repeat(39) + "y:88", 0);
        worth("y:" + "[1]+".repeat(39) + "11", 50);
        // jumps over the longest CLAUSES
        worth("y:1=2?" + "1+".repeat(74) + "1;y:9", 9);
    }

    private static void letters() {
        sentence(0, "letters: v VOTE of the left one, w of the right one, d DELAY of the left one, e its ERROR "
                + "(0 of a dummy), n whether one is the other's ENEMY (1, 0), s the SEAT of the right one");
        ill("mv0;m", "y:v*10+w", 1);
        ill("m;mv0", "y:v*10+w", 10);
        ill("md20;md0", "y:d", 20);
        ill("md0;md20", "y:d", 0);
        ill("me99;me1", "y:e", 99);
        ill("me99k2;me1", "y:e", 0);
        ill("me99k1;m", "y:e", 99);
        ill("me99k3;m", "y:e", 99);
        ill("m;me99", "y:e", 0);
        ill("mn1;m", "y:n", 1);
        ill("m;mn0", "y:n", 1);
        ill("mn1;mn0", "y:n", 1);
        ill("mn0;mn1", "y:n", 0);
        ill("mn2;mn2", "y:n", 0);
        ill("m;m", "y:s", 1);
        ill("m;m;m;m;m;m;m", "y:s=6?1", 1);
        ill("m;m;m;m;m;m;m", "y:s=0?1", 0);
        ill("r;m;m;m;m;m;m;m", "y:s=0?1", 1);
        ill("r;m;m;m;m;m;m;m", "y:s=7?1", 0);
    }

    private static void ills() {
        sentence(20, "HIDDEN: no HOUSE.");
        due("ill() of a new one", new MouthHouse().ill(), HIDDEN);
        MouthHouse x = new MouthHouse();
        told(x, 1, "y:1");
        x.manners(0);
        due("ill() where MANNERS hold", x.ill(), HIDDEN);
        due("text(0) is refused", told(x, 0, "m"), NONE);
        due("ill() behind a refused HOUSE", x.ill(), HIDDEN);
        sentence(0, "ILL of a SEATING: for each SEAT with one to its left WORTH by the MANNERS that hold");
        for (int many = 2; many <= 7; many++) {
            String row = "m;".repeat(many - 1) + "m";
            ill(row, "y:1", many - 1);
            ill("r;" + row, "y:1", many);
            ill("r;" + row, "y:9999*9999", 1000000 * many);
            ill("r;" + row, "y:0-9999*9999", -1000000 * many);
            ill(row, "y:s", many * (many - 1) / 2);
            ill("r;" + row, "y:s", many * (many - 1) / 2);
        }
        // the last one is to the left of SEAT 0
        ill("r;md1;md2;md3", "y:s=0?d", 3);
        ill("r;mv0;m;m", "y:s=0?v*10+w", 10);
        ill("m;mk1;m", "y:1", 2);
        sentence(0, "(none at first: 1 if one of both is the other's ENEMY, else 0) together");
        asks("m;m;m", "ill()", y -> y.ill(), 0);
        asks("mn1;m;m", "ill()", y -> y.ill(), 1);
        asks("mn1;mn0;m", "ill(), each the other's", y -> y.ill(), 1);
        asks("mn2;m;m", "ill(), in a row", y -> y.ill(), 0);
        asks("r;mn2;m;m", "ill(), in a ring", y -> y.ill(), 1);
        asks("r;mn1;m", "ill(), both sides of two", y -> y.ill(), 2);
        asks("mn0;mn1", "ill(), its own", y -> y.ill(), 0);
        asks("mn1k1;m", "ill(), the dead", y -> y.ill(), 1);
        asks("r;mn1;mn2;mn3;mn4;mn5;mn6;mn0", "ill(), all seven", y -> y.ill(), 7);
    }

    private static void refusedBests() {
        sentence(21, "HIDDEN: no HOUSE, no such ones.");
        for (int wish = -1; wish <= 3; wish++) {
            for (int what = -1; what <= 2; what++) {
                due("without a HOUSE", new MouthHouse().best(wish, what), HIDDEN);
                boolean refused = wish < 0 || wish > 2 || what < 0 || what > 1;
                due("best(" + wish + ", " + what + ")", plain(2, false).best(wish, what) == HIDDEN, refused);
            }
        }
        for (int far : FAR) {
            asks("m;m", "best(" + far + ", 0)", x -> x.best(far, 0), HIDDEN);
            asks("m;m", "best(0, " + far + ")", x -> x.best(0, far), HIDDEN);
            asks("m;m", "best(2, " + far + ")", x -> x.best(2, far), HIDDEN);
        }
        asks("m;m", "best(0, 2)", x -> x.best(0, 2), HIDDEN);
    }

    private static void best(MouthHouse x, int wish, int seating, int much) {
        int was = x.count(4);
        due("best(" + wish + ", 0)", x.best(wish, 0), seating);
        due("best(" + wish + ", 1)", x.best(wish, 1), much);
        due("nobody moves", x.count(4), was);
    }

    private static void leastIll() {
        sentence(0, "of all SEATINGS that by which (wish 0) ILL is least");
        best(house("mn1;m;m"), 0, 21, 0);
        best(house("r;mn1;m;m"), 0, 12, 1);
        best(house("mn1;m"), 0, 1, 1);
        best(house("r;mn1;m"), 0, 1, 2);
        best(polite("r;m;m;m;m;m;m;m", "y:0-9999*9999"), 0, 123456, -7000000);
        best(polite("r;m;m;m;m;m;m;m", "y:9999*9999"), 0, 123456, 7000000);
        // the greatest DELAY last, where nobody sits right of it
        best(polite("md9;md1;md5", "y:d"), 0, 120, 6);
        // the least DELAY ahead of the last SEAT, the greatest last: 4 * 1 + 1 * 2
        best(polite("md1;md4;md9", "y:d*s"), 0, 102, 6);
        best(polite("r;md9;md1;md5", "y:s=0?d"), 0, 21, 1);
        sentence(0, "of several the least as digits");
        for (int many = 2; many <= 7; many++) {
            MouthHouse x = plain(many, false);
            int least = x.count(4);
            x.change(0, many - 1);
            due("best(0, 0), all alike", x.best(0, 0), least);
            due("best(1, 0), all alike", x.best(1, 0), least);
            due("best(2, 0) in a ring, all alike", plain(many, true).best(2, 0), least);
        }
        best(house("mn1;m;m;m"), 0, 213, 0);
    }

    private static void mostHeard() {
        sentence(0, "(1) the most words are HEARD");
        for (int many = 2; many <= 7; many++) {
            due("in a row", plain(many, false).best(1, 1), many - 1);
            due("in a ring", plain(many, true).best(1, 1), many);
        }
        best(house("mk1;mk1"), 1, 1, 0);
        best(house("r;m;mk1"), 1, 1, 0);
        best(house("mk3;m;m"), 1, 120, 2);
        best(house("r;mk3;m;m"), 1, 12, 2);
        best(house("mk3;mk3;mk3"), 1, 12, 0);
        best(house("mn1;m"), 1, 10, 1);
        best(house("mn1;mn0"), 1, 1, 0);
        best(house("r;mn1;mn0;m;m"), 1, 213, 4);
        best(house("mn1;mk1;m"), 1, 12, 1);
    }

    private static void longestRound() {
        sentence(0, "(2) the ROUND of MEMBER 0 has the most steps (7 at most), and of these is soonest at its end");
        for (int many = 2; many <= 7; many++) {
            MouthHouse row = plain(many, false);
            due("in a row", row.best(2, 1), 999 * (many - 1));
            due("in a ring", plain(many, true).best(2, 1), 6993);
        }
        best(plain(7, false), 2, 1234560, 5994);
        best(house("r;md20;md20"), 2, 1, 6860);
        best(house("r;md0;md0"), 2, 1, 7000);
        best(house("r;md3;md4"), 2, 1, 7000 - 4 * 4 - 3 * 3);
        // the seventh step is to the quickest: 0 - 1 - 2 - 0 - 1 - 2 - 0 - 1
        best(house("r;md5;md2;md9"), 2, 21, 7000 - 3 * 2 - 2 * 9 - 2 * 5);
        sentence(0, "(of 2: 1,000 times the steps less the MINUTE)");
        best(house("m;mk3"), 2, 1, 0);
        best(house("m;mk1"), 2, 1, 0);
        best(house("m;mn0"), 2, 1, 0);
        best(house("mk1;m;m"), 2, 12, 0);
        best(house("m;mk3;m"), 2, 120, 999);
        best(house("m;md20;mk3"), 2, 102, 980);
        best(house("m;md20;md3k1"), 2, 102, 980);
        // more steps are better than sooner ones
        best(house("m;md20;md20n0"), 2, 210, 1960);
        best(house("m;md0n0;md20n0"), 2, 12, 0);
    }

    private static void change(String text, int fewest, int seating) {
        MouthHouse x = house(text);
        int was = x.count(4);
        due("changes(0) of " + text, x.changes(0), fewest);
        due("changes(1) of " + text, x.changes(1), seating);
        due("nobody moves", x.count(4), was);
    }

    private static void refusedChanges() {
        sentence(22, "NONE: it can't be, no HOUSE, no such what.");
        due("changes(0) without a HOUSE", new MouthHouse().changes(0), NONE);
        due("changes(1) without a HOUSE", new MouthHouse().changes(1), NONE);
        for (int far : new int[] {-1, 2, 3, LOWEST, HIGHEST}) {
            due("changes(" + far + ") without a HOUSE", new MouthHouse().changes(far), NONE);
            asks("m;m", "changes(" + far + ")", x -> x.changes(far), NONE);
        }
        change("r;mk3;m", NONE, NONE);
        change("mk3;mk3", NONE, NONE);
        change("mn1;mn0", NONE, NONE);
    }

    private static void whichExchanges() {
        sentence(0, "two that sit beside one another (in a ring the last and the first, too)");
        // 3 swallows 0; 0 must not come ahead of 2, nor 1 ahead of 3: so 3 and 0 change
        change("r;mn2;mn3;m;mn0", 1, 3120);
        // the same in a row, nothing is swallowed there
        change("mn2;mn3;m;mn0", 0, 123);
        change("mn1;m", 1, 10);
        change("mk3;m", 1, 10);
        // the first and the last of a row do not sit beside one another
        change("mk3;m;m", 2, 120);
        change("mk3;m;m;m;m;m;m", 6, 1234560);
        change("r;mn1;m;m", 1, 21);
    }

    private static void fewest() {
        sentence(0, "how many, the SEATING (of several the least)");
        for (int many = 2; many <= 7; many++) {
            for (boolean ring : new boolean[] {false, true}) {
                MouthHouse x = plain(many, ring);
                x.change(0, many - 1);
                due("all is HEARD as it is", x.changes(0), 0);
                due("so it stays", x.changes(1), x.count(4));
            }
        }
        // 102, 210 and, in a ring, 021 are one exchange from 012; in each nothing is swallowed
        change("r;m;mn2;m", 1, 21);
        change("m;mn2;m", 1, 21);
        sentence(0, "all that is said is HEARD (in a row: all but the first not dead one's)");
        change("mk1;mk1", 0, 1);
        change("r;mk1;mk1", 0, 1);
        change("mk1;m", 0, 1);
        change("mk1;mk3", 0, 1);
        change("m;mk3", 0, 1);
        change("mk1;mk3;m", 1, 21);
        change("m;mk1;mk3", 0, 12);
        change("mn2;mk1;m", 2, 120);
        change("r;m;m", 0, 1);
    }

    private static void cantBe() {
        sentence(22, "it can't be");
        change("r;m;mk1", NONE, NONE);
        change("r;mk1;mk3", NONE, NONE);
        change("r;mk3;m;m;m;m;m;m", NONE, NONE);
        change("mk3;mk3;m;m;m;m;m", NONE, NONE);
        change("r;mn1;m", NONE, NONE);
        change("r;mn1;mn2;mn0", 1, 21);
        change("r;mn1;mn0;m", NONE, NONE);
        MouthHouse x = house("mk3;mk3;m");
        due("two deaf ones", x.changes(0), NONE);
        due("changes(1)", x.changes(1), NONE);
        x.set(0, 1, 1);
        due("one of them dies", x.changes(0), 1);
        due("changes(1)", x.changes(1), 21);
    }

    private static void same(MouthHouse x, String house, int seating) {
        MouthHouse fresh = house(house);
        fresh.sit(seating);
        for (int what = 0; what < 2; what++) {
            due("best(1, " + what + ")", x.best(1, what), fresh.best(1, what));
            due("best(2, " + what + ")", x.best(2, what), fresh.best(2, what));
            due("changes(" + what + ")", x.changes(what), fresh.changes(what));
            due("best(0, " + what + ")", x.best(0, what), fresh.best(0, what));
        }
    }

    private static void followed() {
        sentence(0, "By hand two change SEATS, VOTES are changed, MEMBERS die (KIND).");
        MouthHouse x = house("mn1;mk3;m;m");
        same(x, "mn1;mk3;m;m", 123);
        x.image();
        x.set(1, 1, 0);
        same(x, "mn1;m;m;m", 123);
        x.change(0, 2);
        same(x, "mn1;m;m;m", 2103);
        x.sit(3012);
        same(x, "mn1;m;m;m", 3012);
        x.set(0, 1, 1);
        same(x, "mn1k1;m;m;m", 3012);
        x.back();
        same(x, "mn1;mk3;m;m", 123);
        told(x, 0, "r;mn2;md4;m");
        same(x, "r;mn2;md4;m", 12);
        MouthHouse votes = polite("m;mv0;m", "y:v*w");
        due("best(0, 1)", votes.best(0, 1), 0);
        votes.set(1, 0, 1);
        due("another VOTE", votes.best(0, 1), 2);
        told(votes, 1, "y:0-s");
        due("others are told, but do not hold", votes.best(0, 1), 2);
        votes.manners(1);
        due("others hold", votes.best(0, 1), -3);
        votes.manners(NONE);
        due("none hold", votes.best(0, 1), 0);
    }
}
