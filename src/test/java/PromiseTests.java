import java.util.NoSuchElementException;

/** Each promise of the document by itself, with answers worked out by hand: ordinary inputs, edges, wrong inputs. */
public final class PromiseTests {
    private static final int NONE = MouthHouse.NONE;
    private static final int HIDDEN = MouthHouse.HIDDEN;
    private static int wrong = 0;
    private static int asked = 0;
    private static int promise = 0;

    private static void due(String call, long got, long want) {
        asked++;
        if (got != want) {
            wrong++;
            System.out.println("promise " + promise + ": " + call + " answered " + got + ", due is " + want);
        }
    }

    private static void due(String call, boolean got, boolean want) {
        due(call, got ? 1 : 0, want ? 1 : 0);
    }

    private static int feed(MouthHouse x, String text) {
        int has = x.count(3);
        for (int from = 0; from < text.length(); from += 20) {
            int[] five = new int[5];
            for (int i = 0; i < 20 && from + i < text.length(); i++) {
                five[i / 4] |= text.charAt(from + i) << 24 - i % 4 * 8;
            }
            has = x.feed(five[0], five[1], five[2], five[3], five[4]);
        }
        return has;
    }

    private static int told(MouthHouse x, int sort, String text) {
        x.end(0);
        feed(x, text);
        return x.text(sort);
    }

    private static MouthHouse house(String text) {
        MouthHouse x = new MouthHouse();
        due("text(0) of " + text + " is refused", told(x, 0, text) == NONE, false);
        return x;
    }

    private static MouthHouse polite(String house, String manners) {
        MouthHouse x = house(house);
        due("text(1) of " + manners, told(x, 1, manners), 0);
        due("manners(0)", x.manners(0), true);
        return x;
    }

    public static void main(String[] args) {
        newObject();
        tape();
        houseFaults();
        mannersFaults();
        texts();
        members();
        seatsAndManners();
        setting();
        rounds();
        votes();
        turners();
        bribes();
        yawns();
        ills();
        bests();
        changes();
        knowledge();
        sittings();
        images();
        counts();
        System.out.println(asked + " answers, " + wrong + " not as due");
        if (wrong != 0) {
            System.exit(1);
        }
    }

    private static void newObject() {
        promise = 1;
        MouthHouse x = new MouthHouse();
        int[] due = {0, 0, 0, 0, 0, NONE, 0, 0, 0, HIDDEN};
        for (int what = 0; what < due.length; what++) {
            due("count(" + what + ")", x.count(what), due[what]);
        }
        due("seat(0)", x.seat(0), NONE);
        due("round(0, 0, 0)", x.round(0, 0, 0), NONE);
        due("tally(0)", x.tally(0), NONE);
        due("odds(0)", x.odds(0), NONE);
        due("passed()", x.passed(), NONE);
        due("turner()", x.turner(), NONE);
        due("bribe(0)", x.bribe(0), NONE);
        due("yawn(0, 0)", x.yawn(0, 0), NONE);
        due("yawns(0, 0)", x.yawns(0, 0), NONE);
        due("ill()", x.ill(), HIDDEN);
        due("best(0, 0)", x.best(0, 0), HIDDEN);
        due("changes(0)", x.changes(0), NONE);
        due("know(0, true)", x.know(0, true), NONE);
        due("fits(-1)", x.fits(-1), NONE);
        due("sure(true)", x.sure(true), NONE);
        due("sitting()", x.sitting(), NONE);
        due("sat(0, 0)", x.sat(0, 0), NONE);
        due("undo()", x.undo(), NONE);
        due("image()", x.image(), NONE);
        due("back()", x.back(), NONE);
        due("sit(0)", x.sit(0), false);
        due("change(0, 1)", x.change(0, 1), false);
        due("set(0, 0, 0)", x.set(0, 0, 0), false);
        due("end(0)", x.end(0), true);
    }

    private static void tape() {
        promise = 2;
        MouthHouse x = new MouthHouse();
        due("feed of nothing", x.feed(0, 0, 0, 0, 0), 0);
        due("feed, the highest first", x.feed(0x6d3b006d, 0, 0x00000076, 0, 0x30000000), 5);
        due("fault(0)", x.fault(0), NONE);
        due("feed of bytes above 127", x.feed(-1, 0, 0, 0, 0), 9);
        due("fault(0)", x.fault(0), 5);
        due("end(0)", x.end(0), true);
        for (int i = 1; i <= 7; i++) {
            due("feed", x.feed(-1, -1, -1, -1, -1), 20 * i);
        }
        due("feed to 159", x.feed(-1, -1, -1, -1, -256), 159);
        due("feed to 161", x.feed(0x20002000, 0, 0, 0, 0), NONE);
        due("count(3)", x.count(3), 159);
        due("feed to 160", x.feed(0, 0, 0, 0, 32), 160);
        due("feed of nothing to 160", x.feed(0, 0, 0, 0, 0), 160);
        due("feed to 161", x.feed(0, 0, 0, 0, 1), NONE);
        promise = 3;
        due("end(161)", x.end(161), false);
        due("end(-1)", x.end(-1), false);
        due("end(160)", x.end(160), true);
        due("end(3)", x.end(3), true);
        due("count(3)", x.count(3), 3);
        due("end(4)", x.end(4), false);
        due("end(0)", x.end(0), true);
        due("count(3)", x.count(3), 0);
        feed(x, "m;mv1x");
        due("end(5)", x.end(5), true);
        due("fault(0)", x.fault(0), NONE);
    }

    private static void faulty(int sort, String text, int want) {
        MouthHouse x = new MouthHouse();
        feed(x, text);
        due("fault(" + sort + ") of '" + text + "'", x.fault(sort), want);
        due("text(" + sort + ") of '" + text + "' is refused", x.text(sort) == NONE, want != NONE);
        due("the tape behind '" + text + "'", x.count(3), want == NONE ? 0 : text.length());
    }

    private static void houseFaults() {
        promise = 4;
        MouthHouse x = new MouthHouse();
        due("fault(2)", x.fault(2), -2);
        due("fault(-1)", x.fault(-1), -2);
        faulty(0, "", 0);
        faulty(0, "  ", 2);
        faulty(0, "m", 1);
        faulty(0, "m;", 2);
        faulty(0, "m;m;", 4);
        faulty(0, "m;m ; ", 6);
        faulty(0, "m;m", NONE);
        faulty(0, "m;r;m", NONE);
        faulty(0, "m;m;r", NONE);
        faulty(0, "r;m;r;m", 4);
        faulty(0, "r;m", 3);
        faulty(0, "rm;m", 1);
        faulty(0, ";m;m", 0);
        faulty(0, "m;;m", 2);
        faulty(0, "m;m;m;m;m;m;m;r", NONE);
        faulty(0, "m;m;m;m;m;m;m;r;", 16);
        faulty(0, "m;m;m;m;m;m;m; m", 15);
        faulty(0, "mv1d20e99k3n7y20b99;mb0y0n0k0e0d0v0", NONE);
        faulty(0, "mv2;m", 2);
        faulty(0, "mv10;m", 3);
        faulty(0, "mv01;m", NONE);
        faulty(0, "mv001;m", 4);
        faulty(0, "mv210;m", 4);
        faulty(0, "mv2100;m", 4);
        faulty(0, "mv1 0;m", 4);
        faulty(0, "mv2 0;m", 2);
        faulty(0, "md30;m", 3);
        faulty(0, "me999;m", 4);
        faulty(0, "mb99;m", NONE);
        faulty(0, "mb100;m", 4);
        faulty(0, "mk4;m", 2);
        faulty(0, "mn8;m", 2);
        faulty(0, "my21;m", 3);
        faulty(0, "mv1d1v1;m", 5);
        faulty(0, "mv1;mv1", NONE);
        faulty(0, "mv;m", 2);
        faulty(0, "mv", 2);
        faulty(0, "mv  ", 4);
        faulty(0, "mvd1;m", 2);
        faulty(0, "m1;m", 1);
        faulty(0, "mm", 1);
        faulty(0, "mw1;m", 1);
        faulty(0, "m;M", 2);
        faulty(0, "m;m" + (char) 200, 3);
        faulty(0, "m;m\t", 3);
        faulty(0, " r ; m d 1 2 ; m", 11);
        faulty(0, " r ; m d 12 v 0 ; m ", NONE);
    }

    private static void mannersFaults() {
        promise = 4;
        faulty(1, "", 0);
        faulty(1, "y", 1);
        faulty(1, "y:", 2);
        faulty(1, "y:1", NONE);
        faulty(1, " y : 1 + v * [ w - d ] / e ; y : n = s ? 0 ", NONE);
        faulty(1, "y:1;", 4);
        faulty(1, "y:1;y", 5);
        faulty(1, "y:1;;", 4);
        faulty(1, "x:1", 0);
        faulty(1, "y1", 1);
        faulty(1, "y:9999", NONE);
        faulty(1, "y:00001", 6);
        faulty(1, "y:1 2", 4);
        faulty(1, "y:-1", 2);
        faulty(1, "y:1+", 4);
        faulty(1, "y:1+*2", 4);
        faulty(1, "y:b", 2);
        faulty(1, "y:vw", 3);
        faulty(1, "y:v?1", 3);
        faulty(1, "y:v&w=1?1", 3);
        faulty(1, "y:v=1", 5);
        faulty(1, "y:v=1;y:1", 5);
        faulty(1, "y:v=1?", 6);
        faulty(1, "y:v=1?1?2", 7);
        faulty(1, "y:v=1?1=2", 7);
        faulty(1, "y:v=1=2?1", 5);
        faulty(1, "y:v=1&w?1", 7);
        faulty(1, "y:v=1&w<2|d>3?1", NONE);
        faulty(1, "y:v=1||w=1?1", 6);
        faulty(1, "y:v==1?1", 4);
        faulty(1, "y:(v=1)?1", NONE);
        faulty(1, "y:(v)?1", 4);
        faulty(1, "y:(v=1)", 7);
        faulty(1, "y:(v=1)+1", 7);
        faulty(1, "y:(v=1?1", 6);
        faulty(1, "y:(1)", 4);
        faulty(1, "y:!v?1", 4);
        faulty(1, "y:!v=1?1", NONE);
        faulty(1, "y:[v=1]?1", 4);
        faulty(1, "y:[v]=1?1", NONE);
        faulty(1, "y:[v)", 4);
        faulty(1, "y:v=(1)?1", 4);
        faulty(1, "y:v=!1?1", 4);
        faulty(1, "y:1?(1)", 3);
        faulty(1, "y:v=1?(1)", 6);
        faulty(1, "y:[[[[[[1]]]]]]", NONE);
        faulty(1, "y:[[[[[[[1]]]]]]]", 8);
        faulty(1, "y:!!!!!!v=1?1", NONE);
        faulty(1, "y:!!!!!!!v=1?1", 8);
        faulty(1, "y:((((((v=1))))))?1", NONE);
        faulty(1, "y:(((((((v=1)))))))?1", 8);
        faulty(1, "y:(!(!(![v]=1)))?1", 8);
        faulty(1, "y:(!(!([v]=1)))?1", NONE);
        faulty(1, "y:!v=1&!v=1&!v=1&!v=1&!v=1&!v=1&!v=1?1", NONE);
        faulty(1, "y:[1]+[1]+[1]+[1]+[1]+[1]+[1]", NONE);
        faulty(1, "y:v=1?[[[[[[1]]]]]]", NONE);
        faulty(1, "y:v=1?[[[[[[[1]]]]]]]", 12);
        faulty(1, "y:v=[[[[[[1]]]]]]&v=[[[[[[1]]]]]]?1", NONE);
        faulty(1, "y:!v=[[[[[1]]]]]?1", NONE);
        faulty(1, "y:!v=[[[[[[1]]]]]]?1", 10);
        faulty(1, "m;m", 0);
    }

    private static void texts() {
        promise = 5;
        MouthHouse x = new MouthHouse();
        due("text(0) of nothing", x.text(0), NONE);
        due("text(1) of nothing", x.text(1), NONE);
        due("manners without a house", told(x, 1, "y:1"), 0);
        due("text(0)", told(x, 0, "m;m;r;m"), 3);
        due("count(3)", x.count(3), 0);
        feed(x, "m;m");
        due("text(2)", x.text(2), NONE);
        due("text(-1)", x.text(-1), NONE);
        due("text(1) of a house", x.text(1), NONE);
        due("count(3)", x.count(3), 3);
        due("text(1)", told(x, 1, "y:2"), 1);
        due("text(1)", told(x, 1, "y:3"), 2);
        due("text(1)", told(x, 1, "y:4"), 3);
        due("a fifth", told(x, 1, "y:5"), NONE);
        due("count(2)", x.count(2), 4);
        due("count(3)", x.count(3), 3);
        due("manners(3)", x.manners(3), true);
        x.sit(210);
        x.know(0, true);
        x.image();
        x.seed(0);
        x.sitting();
        due("a house told where there are four manners", told(x, 0, "m;me24"), 2);
        due("seats are new", x.count(4), 1);
        due("KNOWN are gone", x.count(6), 0);
        due("SITTINGS are gone", x.count(7), 0);
        due("the IMAGE is gone", x.back(), NONE);
        due("which MANNERS hold stays", x.count(5), 3);
        due("MANNERS stay", x.ill(), 4);
        // three draws are made above, the fourth of seed 0 is 36, the fifth 25
        due("text(0)", told(x, 0, "me36;m"), 2);
        due("draws stay: 36 is not below 36", x.sitting(), 1);
        due("text(0)", told(x, 0, "me26;m"), 2);
        due("draws stay: 25 is below 26", x.sitting(), 0);
    }

    private static void member(MouthHouse x, int member, int what, int want) {
        int got;
        try {
            got = x.member(member, what);
        } catch (NoSuchElementException e) {
            got = -77;
        }
        due("member(" + member + ", " + what + ")", got, want);
    }

    private static void members() {
        promise = 6;
        MouthHouse x = house("m;mv0d2e30k2n0y5b6;mk1n3");
        int[][] due = {{1, 1, 0, 0, 7, 3, 10, 0, NONE, 0}, {0, 2, 30, 2, 0, 5, 6, 1, 0, 1}, {1, 1, 0, 1, 7, 3, 10, 2, NONE, 0}};
        for (int m = 0; m < 3; m++) {
            for (int what = 0; what < 10; what++) {
                member(x, m, what, due[m][what]);
            }
        }
        member(x, 3, 0, -77);
        member(x, -1, 0, -77);
        member(x, 0, 10, -77);
        member(x, 0, -1, -77);
        member(new MouthHouse(), 0, 0, -77);
        x.sit(120);
        member(x, 1, 7, 0);
        member(x, 0, 7, 2);
        member(x, 0, 8, 1);
        member(x, 0, 9, 0);
        MouthHouse ring = house("r;m;mk1;mk3;m");
        int[] mouths = {3, NONE, 0, 2};
        int[] heard = {1, 0, 1, 0};
        for (int m = 0; m < 4; m++) {
            member(ring, m, 8, mouths[m]);
            member(ring, m, 9, heard[m]);
        }
        MouthHouse alone = house("r;m;mk1");
        member(alone, 0, 8, NONE);
        member(alone, 0, 9, 0);
        member(house("mn0;m"), 0, 4, 0);
        member(house("mn0;m"), 1, 9, 1);
        member(house("mn2;m;m"), 0, 4, 2);
        member(house("mn2;m"), 0, 4, 7);
    }

    private static void seatsAndManners() {
        promise = 7;
        MouthHouse x = house("m;m;m");
        x.sit(201);
        due("seat(0)", x.seat(0), 2);
        due("seat(1)", x.seat(1), 0);
        due("seat(2)", x.seat(2), 1);
        due("seat(3)", x.seat(3), NONE);
        due("seat(-1)", x.seat(-1), NONE);
        promise = 8;
        due("manners(NONE)", x.manners(NONE), true);
        due("manners(0)", x.manners(0), false);
        due("manners(-2)", x.manners(-2), false);
        told(x, 1, "y:5");
        told(x, 1, "y:7");
        due("none hold at first", x.ill(), 0);
        due("manners(1)", x.manners(1), true);
        due("ill()", x.ill(), 14);
        due("manners(2)", x.manners(2), false);
        due("count(5)", x.count(5), 1);
        due("manners(0)", x.manners(0), true);
        due("ill()", x.ill(), 10);
        due("best(0, 1)", x.best(0, 1), 10);
        due("manners(NONE)", x.manners(NONE), true);
        due("best(0, 1)", x.best(0, 1), 0);
        due("count(5)", x.count(5), NONE);
        promise = 10;
        due("change(0, 2)", x.change(0, 2), true);
        due("count(4)", x.count(4), 102);
        due("change(1, 1)", x.change(1, 1), false);
        due("change(0, 3)", x.change(0, 3), false);
        due("change(3, 0)", x.change(3, 0), false);
        due("change(-1, 0)", x.change(-1, 0), false);
        due("change(2, 1)", x.change(2, 1), true);
        due("count(4)", x.count(4), 120);
        promise = 11;
        due("sit(120), as it is", x.sit(120), true);
        due("sit(12)", x.sit(12), true);
        due("count(4)", x.count(4), 12);
        for (int no : new int[] {-12, 1, 11, 122, 13, 1012, 120120, 123, 10012, Integer.MAX_VALUE, Integer.MIN_VALUE}) {
            due("sit(" + no + ")", x.sit(no), false);
        }
        due("count(4)", x.count(4), 12);
        due("sit(6543210)", house("m;m;m;m;m;m;m").sit(6543210), true);
    }

    private static void setting() {
        promise = 9;
        MouthHouse x = house("m;mk3");
        due("set(0, 0, 1), as it is", x.set(0, 0, 1), false);
        due("set(0, 0, 0)", x.set(0, 0, 0), true);
        due("set(0, 0, 2)", x.set(0, 0, 2), false);
        due("set(0, 0, -1)", x.set(0, 0, -1), false);
        due("set(0, 1, 4)", x.set(0, 1, 4), false);
        due("set(0, 1, -1)", x.set(0, 1, -1), false);
        due("set(0, 2, 1)", x.set(0, 2, 1), false);
        due("set(0, -1, 1)", x.set(0, -1, 1), false);
        due("set(2, 0, 0)", x.set(2, 0, 0), false);
        due("set(-1, 0, 0)", x.set(-1, 0, 0), false);
        due("set(1, 1, 3), as it is", x.set(1, 1, 3), false);
        member(x, 0, 0, 0);
        member(x, 0, 3, 0);
        for (int kind = 0; kind < 4; kind++) {
            due("set(1, 1, " + kind + ")", x.set(1, 1, kind), true);
            member(x, 1, 3, kind);
        }
        due("changes(0)", x.changes(0), 0);
        due("set(0, 1, 3)", x.set(0, 1, 3), true);
        due("changes(0), both deaf", x.changes(0), NONE);
    }

    private static void rounds() {
        promise = 12;
        MouthHouse x = house("me10d4;me20d5;md6");
        due("round(2, 0, 0)", x.round(2, 0, 0), 2);
        due("round(2, 0, 1)", x.round(2, 0, 1), 0);
        due("round(2, 0, 2)", x.round(2, 0, 2), 1);
        due("round(2, 1, 1)", x.round(2, 1, 1), 5);
        due("round(2, 1, 2)", x.round(2, 1, 2), 80);
        due("round(2, 2, 0)", x.round(2, 2, 0), 0);
        due("round(2, 2, 1)", x.round(2, 2, 1), 9);
        due("two errors make it right again", x.round(2, 2, 2), 7400);
        due("round(2, 3, 0)", x.round(2, 3, 0), NONE);
        due("round(2, -1, 0)", x.round(2, -1, 0), NONE);
        due("round(2, 0, 3)", x.round(2, 0, 3), NONE);
        due("round(2, 0, -1)", x.round(2, 0, -1), NONE);
        due("round(3, 0, 0)", x.round(3, 0, 0), NONE);
        due("round(-1, 0, 0)", x.round(-1, 0, 0), NONE);
        x.set(1, 1, 2);
        due("a dummy makes no ERROR", x.round(2, 2, 2), 9000);
        due("a dummy has its DELAY", x.round(2, 2, 1), 9);
        x.set(1, 1, 1);
        due("by the dead", x.round(2, 1, 0), 0);
        due("a dead one", x.round(1, 0, 0), NONE);
        x.set(1, 1, 3);
        due("the deaf swallow", x.round(2, 1, 0), NONE);
        due("the deaf speak", x.round(1, 1, 0), 0);
        MouthHouse ring = house("r;md3e50;md2;mk1;md5n0");
        due("round(3, 1, 0)", ring.round(3, 1, 0), 1);
        due("round(3, 2, 1)", ring.round(3, 2, 1), 5);
        due("round(3, 2, 2)", ring.round(3, 2, 2), 5000);
        due("an enemy swallows", ring.round(3, 3, 0), NONE);
        ring.sit(3120);
        due("the SEAT, not the MEMBER", ring.round(3, 1, 0), 3);
        due("round(3, 2, 0)", ring.round(3, 2, 0), 1);
        due("round(3, 3, 0)", ring.round(3, 3, 0), 0);
        due("round(3, 7, 0)", ring.round(3, 7, 0), 3);
        due("round(3, 7, 1)", ring.round(3, 7, 1), 23);
        due("round(3, 7, 2)", ring.round(3, 7, 2), 50000000000000L);
        due("round(3, 8, 0)", ring.round(3, 8, 0), NONE);
    }

    private static void votes() {
        promise = 13;
        MouthHouse x = house("r;md3e50;md2;mk1;md5n0");
        due("tally(0)", x.tally(0), 2);
        due("tally(1)", x.tally(1), 2);
        due("tally(2)", x.tally(2), NONE);
        due("tally(-1)", x.tally(-1), NONE);
        promise = 14;
        due("odds(0)", x.odds(0), 0);
        due("odds(1)", x.odds(1), 5000);
        due("odds(2)", x.odds(2), 5000);
        due("odds(3)", x.odds(3), 0);
        due("odds(8)", x.odds(8), 0);
        due("odds(2147483647)", x.odds(Integer.MAX_VALUE), 0);
        due("odds(-1)", x.odds(-1), NONE);
        promise = 15;
        due("passed()", x.passed(), 5000);
        promise = 13;
        x.set(1, 0, 0);
        due("tally(1)", x.tally(1), 1);
        MouthHouse three = house("me10;me20;me99k2v0;m");
        due("tally(0)", three.tally(0), 3);
        due("tally(1)", three.tally(1), 2);
        promise = 14;
        // words of 1 (yes, 90 of 100), 2 (no, 20 of 100 come out yes), 3 (yes, through a dummy)
        due("odds(0)", three.odds(0), 0);
        due("odds(1)", three.odds(1), 100 * 10 * 80);
        due("odds(2)", three.odds(2), 100 * (90 * 80 + 10 * 20));
        due("odds(3)", three.odds(3), 100 * 90 * 20);
        promise = 15;
        due("passed()", three.passed(), 1000000 - 80000);
        MouthHouse four = house("me50;me50;me50;me50;m");
        due("half is not more than half", four.passed(), 100000000L / 16 * 5);
        MouthHouse none = house("mk1;m");
        due("odds(0)", none.odds(0), 1);
        due("odds(1)", none.odds(1), 0);
        due("passed()", none.passed(), 0);
        due("tally(0)", none.tally(0), 0);
        MouthHouse seven = house("r;me1;me1;me1;me1;me1;me1;me1");
        due("odds(7)", seven.odds(7), 99L * 99 * 99 * 99 * 99 * 99 * 99);
        due("odds(0)", seven.odds(0), 1);
        due("odds(1)", seven.odds(1), 7 * 99);
    }

    private static void turners() {
        promise = 16;
        due("turner()", house("me10;me20;me30;m").turner(), 3);
        due("of several the lowest", house("me10;me20;me20;m").turner(), 2);
        due("without errors the lowest", house("m;m;m").turner(), 1);
        // words of 1 and 2 err by 10 and 0, of 3 by 30: two of the three must be yes
        due("a dummy makes none", house("me10;me90k2;me30;m").turner(), 1);
        due("the word of a dummy's mouth has none", house("me90k2;me10;m").turner(), 2);
        due("none is HEARD", house("m;mk1").turner(), NONE);
        due("the first is HEARD in a ring", house("r;m;m;me40").turner(), 0);
        // not passed: 1 no through 30, 2 no through 20, 3 yes through 10; passing errors come from 1 first
        due("where it fails", house("me30;mv0e20;mv0e10;m").turner(), 1);
    }

    private static void bribe(String text, int cost, int who) {
        MouthHouse x = house(text);
        due("bribe(0) of " + text, x.bribe(0), cost);
        due("bribe(1) of " + text, x.bribe(1), who);
        due("bribe(2) of " + text, x.bribe(2), NONE);
        due("bribe(-1) of " + text, x.bribe(-1), NONE);
    }

    private static void bribes() {
        promise = 17;
        bribe("m;mv0b9;mv0b4;mv0b0;mv0b4", 8, 28);
        bribe("m;mv0b4;mv0b4;mv1", 4, 2);
        bribe("mv0b0;mv0;m", 10, 2);
        bribe("m;m", 0, 0);
        bribe("m;mk1", NONE, NONE);
        bribe("mk3;m", NONE, NONE);
        bribe("m;mv0b30;mk1v0b1;mv0b20", 50, 10);
        bribe("m;mv0b0;mv0b0;mv0b0", 0, 6);
        bribe("r;mv0b1;mv0b3;m", 1, 1);
    }

    private static void yawns() {
        promise = 18;
        MouthHouse x = house("my0;my5;my2;my9k1;my4");
        due("yawn(2, 2)", x.yawn(2, 2), 0);
        due("yawn(2, 1)", x.yawn(2, 1), 5);
        due("yawn(2, 0)", x.yawn(2, 0), NONE);
        due("yawn(2, 3)", x.yawn(2, 3), NONE);
        due("yawn(2, 4)", x.yawn(2, 4), NONE);
        due("yawn(0, 2)", x.yawn(0, 2), 7);
        due("yawn(0, 0)", x.yawn(0, 0), 0);
        due("yawn(3, 2)", x.yawn(3, 2), NONE);
        due("yawn(5, 0)", x.yawn(5, 0), NONE);
        due("yawn(0, 5)", x.yawn(0, 5), NONE);
        due("yawn(-1, 0)", x.yawn(-1, 0), NONE);
        due("yawn(0, -1)", x.yawn(0, -1), NONE);
        promise = 19;
        due("yawns(2, 0)", x.yawns(2, 0), 5);
        due("yawns(2, 1)", x.yawns(2, 1), 25);
        due("yawns(0, 0)", x.yawns(0, 0), 7);
        due("yawns(0, 1)", x.yawns(0, 1), 24);
        due("yawns(4, 0)", x.yawns(4, 0), 0);
        due("yawns(4, 1)", x.yawns(4, 1), 15);
        due("yawns(3, 0)", x.yawns(3, 0), NONE);
        due("yawns(5, 0)", x.yawns(5, 0), NONE);
        due("yawns(-1, 1)", x.yawns(-1, 1), NONE);
        due("yawns(0, 2)", x.yawns(0, 2), NONE);
        due("yawns(0, -1)", x.yawns(0, -1), NONE);
        MouthHouse ring = house("r;m;my9;my1;my1;my1");
        due("the first beside it", ring.yawn(0, 1), 9);
        due("round the ring", ring.yawn(0, 2), 3);
        due("yawns(0, 0)", ring.yawns(0, 0), 9);
        due("yawns(0, 1)", ring.yawns(0, 1), 0);
        ring.change(1, 2);
        due("by seats", ring.yawn(0, 2), 1);
        promise = 18;
        MouthHouse slow = house("my20;my20;my20;my20;my20;my20;my20");
        due("yawn(0, 6)", slow.yawn(0, 6), 120);
        due("the slow way round is quicker", house("r;m;my20;my1;my1").yawn(0, 2), 2);
    }

    private static void ill(String house, String manners, int want) {
        due("ill() of " + house + " by " + manners, polite(house, manners).ill(), want);
    }

    private static void ills() {
        promise = 20;
        due("ill()", house("mn1;m;mn0").ill(), 1);
        due("ill() in a ring", house("r;mn1;m;mn0").ill(), 2);
        due("ill() of two in a ring", house("r;mn1;m").ill(), 2);
        due("the dead sit, too", house("mn1k1;m").ill(), 1);
        ill("mn1;md4;m", "y:n=1?0-5;y:s*10+d", 19);
        ill("mv0d7e30n1;mv1d2k2e40;m", "y:v*1000+w*100+d", 1209);
        ill("mv0d7e30n1;mv1d2k2e40;m", "y:e*100+n*10+s", 3013);
        ill("r;m;m;m", "y:s", 3);
        // in a ring the last one is to the left of SEAT 0
        ill("r;md1;md2;md3", "y:s=0?d;y:s*1000", 3003);
    }

    private static void worths() {
        ill("m;m", "y:9999*9999", 1000000);
        ill("m;m", "y:0-9999*9999", -1000000);
        ill("m;m", "y:9999*9999+1-1", 999999);
        ill("m;m", "y:0-9999*9999-1+1", -999999);
        ill("m;m;m", "y:9999*9999", 2000000);
        ill("m;m", "y:[0-7]/2", -3);
        ill("m;m", "y:7/[0-2]", -3);
        ill("m;m", "y:7/0+3", 3);
        ill("m;m", "y:10-3-2", 5);
        ill("m;m", "y:8/4*2", 4);
        ill("m;m", "y:2+3*4", 14);
        ill("m;m", "y:[2+3]*4", 20);
        ill("m;m", "y:" + "1+".repeat(78) + "11", 89);
        ill("m;m", "y:v=2?1;".repeat(19) + "y:v=1?7", 7);
        ill("m;m", "y:s=9?5", 0);
        ill("m;m", "y:s=1?5;y:6", 5);
        ill("m;m", "y:s<1?5;y:s>1?6;y:7;y:8", 7);
        ill("mv0;m;m", "y:!(v=1)&w=1|s>1?1;y:2", 2);
        ill("m;m;m", "y:s=1|s=2&v=5?1;y:2", 3);
        ill("m;m", "y:!!v=1?1;y:2", 1);
        ill("m;m", "y:!v=1|v=1?1;y:2", 1);
        ill("m;m", "y:!(v=1|v=2)?1;y:2", 2);
    }

    private static void bests() {
        promise = 20;
        worths();
        promise = 21;
        MouthHouse x = house("mn1;m;m");
        due("best(0, 0)", x.best(0, 0), 21);
        due("best(0, 1)", x.best(0, 1), 0);
        due("count(4)", x.count(4), 12);
        due("best(3, 0)", x.best(3, 0), HIDDEN);
        due("best(-1, 0)", x.best(-1, 0), HIDDEN);
        due("best(0, 2)", x.best(0, 2), HIDDEN);
        due("best(0, -1)", x.best(0, -1), HIDDEN);
        MouthHouse polite = polite("md3;md1;md2", "y:0-d*s");
        // the left ones' DELAYS by the SEATS 1 and 2: 1 * 2 + 2 * 3, so MEMBERS 2, 0, 1
        due("best(0, 0)", polite.best(0, 0), 201);
        due("best(0, 1)", polite.best(0, 1), -8);
        due("best(0, 1) in a ring", polite("r;md3;md1;md2", "y:d*s").best(0, 1), 4);
        due("best(0, 0) in a ring", polite("r;md3;md1;md2", "y:d*s").best(0, 0), 210);
        MouthHouse deaf = house("mk3;m;m");
        due("best(1, 0)", deaf.best(1, 0), 120);
        due("best(1, 1)", deaf.best(1, 1), 2);
        deaf.set(0, 1, 0);
        due("best(1, 0) of the healed", deaf.best(1, 0), 12);
        MouthHouse round = house("md1;md9;md2k1;md3");
        due("best(2, 0)", round.best(2, 0), 1230);
        due("best(2, 1)", round.best(2, 1), 1988);
        MouthHouse soonest = house("r;md5;md2;md9");
        due("best(2, 0)", soonest.best(2, 0), 21);
        due("best(2, 1)", soonest.best(2, 1), 6966);
        MouthHouse full = house("m;m;m;m;m;m;m");
        due("best(2, 0)", full.best(2, 0), 1234560);
        due("best(2, 1)", full.best(2, 1), 5994);
        due("best(1, 1)", full.best(1, 1), 6);
        due("the most words in a ring", house("r;m;mk3;m;m").best(1, 1), 3);
        due("the most words of seven in a ring", house("r;m;m;m;m;m;m;m").best(1, 1), 7);
        due("of two in a ring", house("r;m;m").best(1, 1), 2);
        due("of one that is not dead in a ring", house("r;m;mk1").best(1, 1), 0);
        // 1 must not hear 0 nor 0 hear 1, in a ring of four they sit across
        due("best(1, 0)", house("r;mn1;mn0;m;m").best(1, 0), 213);
        due("best(0, 0)", house("r;mn1;mn0;m;m").best(0, 0), 213);
    }

    private static void change(String text, int fewest, int seating) {
        MouthHouse x = house(text);
        int was = x.count(4);
        due("changes(0) of " + text, x.changes(0), fewest);
        due("changes(1) of " + text, x.changes(1), seating);
        due("changes(2) of " + text, x.changes(2), NONE);
        due("changes(-1) of " + text, x.changes(-1), NONE);
        due("count(4) of " + text, x.count(4), was);
    }

    private static void changes() {
        promise = 22;
        change("m;m;m", 0, 12);
        change("mk3;m;m", 2, 120);
        change("r;mn1;m;m;m", 1, 213);
        change("r;m;m;m;mn0", 1, 132);
        change("r;mn1;mn0;m;m;mn0", 1, 41230);
        change("mn1;mn0;mk1;m;m", 2, 2314);
        change("r;mk3;m;m", NONE, NONE);
        change("mk3;mk3", NONE, NONE);
        change("mk1;mk1", 0, 1);
        change("r;m;mk1", NONE, NONE);
        change("mk1;m", 0, 1);
        change("mk1;mk3", 0, 1);
        change("r;m;m", 0, 1);
        change("mk3;m;m;m;m;m;m", 6, 1234560);
        MouthHouse last = house("m;m;m;m;m;m;mk3");
        last.sit(6543210);
        due("changes(0) of seven", last.changes(0), 6);
        due("changes(1) of seven", last.changes(1), 5432106);
        MouthHouse x = house("mk3;m;m");
        x.sit(201);
        due("changes(0)", x.changes(0), 1);
        due("changes(1)", x.changes(1), 210);
    }

    private static void knowledge() {
        promise = 23;
        MouthHouse x = house("m;m;mk3;m");
        due("fits(-1), none KNOWN", x.fits(-1), 16);
        due("fits(15)", x.fits(15), 15);
        due("know(-1, true)", x.know(-1, true), NONE);
        due("know(4, true)", x.know(4, true), NONE);
        due("know(0, true)", x.know(0, true), 1);
        promise = 24;
        due("fits(-1)", x.fits(-1), 8);
        due("know(1, false)", x.know(1, false), 2);
        due("fits(-1)", x.fits(-1), 4);
        int[] rows = {2, 3, 10, 11, NONE};
        for (int i = 0; i < rows.length; i++) {
            due("fits(" + i + ")", x.fits(i), rows[i]);
        }
        due("fits(-2)", x.fits(-2), NONE);
        due("fits(2147483647)", x.fits(Integer.MAX_VALUE), NONE);
        promise = 25;
        due("sure(true)", x.sure(true), 2);
        due("sure(false)", x.sure(false), 4);
        x.change(0, 1);
        due("by the SEATING as it is", x.sure(true), 1);
        due("fits(0)", x.fits(0), 1);
        x.set(0, 1, 1);
        due("by the KINDS as they are", x.fits(-1), 0);
        x.set(0, 1, 0);
        due("know(2, true)", x.know(2, true), 3);
        due("nothing comes out of the deaf", x.fits(-1), 0);
        due("fits(0)", x.fits(0), NONE);
        due("sure(true)", x.sure(true), NONE);
        due("sure(false)", x.sure(false), NONE);
        MouthHouse many = house("r;m;m");
        promise = 23;
        for (int i = 1; i <= 20; i++) {
            due("know(0, true)", many.know(0, true), i);
        }
        due("a 21st", many.know(0, true), NONE);
        due("fits(-1)", many.fits(-1), 2);
        due("sure(true)", many.sure(true), 2);
        promise = 24;
        many = house("r;m;m");
        many.know(0, true);
        many.know(1, false);
        due("all KNOWN", many.fits(-1), 1);
        due("fits(0)", many.fits(0), 2);
        due("fits(1)", many.fits(1), NONE);
        due("all rows of seven", house("m;m;m;m;m;m;m").fits(-1), 128);
        MouthHouse both = house("r;m;m");
        both.know(1, true);
        both.know(1, false);
        promise = 24;
        due("yes and no", both.fits(-1), 0);
        due("the first in a row has no mouth", knownLast(house("m;m")), 0);
    }

    private static int knownLast(MouthHouse x) {
        x.know(1, true);
        return x.fits(-1);
    }

    private static void sittings() {
        promise = 26;
        MouthHouse x = house("r;me50;me0;me90");
        x.sit(201);
        // draws of seed 0: 7 24 37, 36 25 91, 84 75 64, 39 3 82; the mouths of 0, 1, 2 err by 90, 50, 0
        promise = 27;
        int[] yes = {1, 1, 2, 1};
        for (int i = 0; i < 4; i++) {
            due("sitting()", x.sitting(), yes[i]);
        }
        promise = 28;
        due("sat(0, 0)", x.sat(0, 0), 1);
        due("sat(0, 1)", x.sat(0, 1), 0);
        due("sat(2, 0)", x.sat(2, 0), 2);
        due("sat(2, 1)", x.sat(2, 1), 1);
        due("sat(3, 1)", x.sat(3, 1), 0);
        due("sat(4, 0)", x.sat(4, 0), NONE);
        due("sat(-1, 0)", x.sat(-1, 0), NONE);
        due("sat(0, 2)", x.sat(0, 2), NONE);
        due("sat(0, -1)", x.sat(0, -1), NONE);
        promise = 29;
        due("undo()", x.undo(), 3);
        due("undo()", x.undo(), 2);
        due("sat(2, 0)", x.sat(2, 0), NONE);
        due("draws are undone", x.sitting(), 2);
        due("draws are undone", x.sitting(), 1);
        promise = 26;
        due("seed(5)", x.seed(5), true);
        // 92 73 34, 5 75 11
        due("sitting()", x.sitting(), 3);
        due("sitting()", x.sitting(), 2);
        due("seed(-1)", x.seed(-1), true);
        // 88 43 77, 2 64 87
        due("sitting()", x.sitting(), 1);
        due("sitting()", x.sitting(), 2);
        promise = 27;
        for (int i = 9; i <= 40; i++) {
            due("sitting() is refused", x.sitting() == NONE, false);
        }
        due("a 41st", x.sitting(), NONE);
        due("count(7)", x.count(7), 40);
        due("below, not at", house("me7;m").sitting(), 1);
        due("below", house("me8;m").sitting(), 0);
        due("a no that is wrong", house("me8;mv0").sitting(), 1);
        due("none is HEARD", house("mk1;m").sitting(), 0);
        due("a dummy makes none", house("me8k2;m").sitting(), 1);
        promise = 29;
        for (int i = 39; i >= 0; i--) {
            due("undo()", x.undo(), i);
        }
        due("undo()", x.undo(), NONE);
        due("draws are those ahead of the first", x.sitting(), 1);
        due("and the second", x.sitting(), 1);
        due("and the third", x.sitting(), 2);
    }

    private static void images() {
        promise = 30;
        MouthHouse x = house("me50;m;mk3");
        x.seed(0);
        x.sitting();
        due("image()", x.image(), 1);
        promise = 31;
        x.sitting();
        x.sitting();
        x.sit(210);
        x.set(0, 0, 0);
        x.set(1, 1, 1);
        x.know(1, true);
        x.seed(77);
        due("back()", x.back(), 1);
        due("SITTINGS", x.count(7), 1);
        due("SEATS", x.count(4), 12);
        due("KNOWN stay", x.count(6), 1);
        member(x, 0, 0, 1);
        member(x, 1, 3, 0);
        // draws 37 and 36 of seed 0 come next; 37 makes the word of 1 wrong
        due("draws", x.sitting(), 1);
        due("changes(0)", x.changes(0), 0);
        due("back() again", x.back(), 1);
        due("draws again", x.sitting(), 1);
        due("undo()", x.undo(), 1);
        due("undo() of one of the IMAGE", x.undo(), 0);
        due("back()", x.back(), 1);
        due("undo()", x.undo(), 0);
        promise = 30;
        due("image() instead of the one ahead", x.image(), 0);
        x.sitting();
        due("back()", x.back(), 0);
        due("no HOUSE", new MouthHouse().image(), NONE);
        promise = 31;
        due("no IMAGE", house("m;m").back(), NONE);
    }

    private static void counts() {
        promise = 32;
        MouthHouse x = house("r;me50;m;m");
        x.sit(120);
        told(x, 1, "y:1");
        told(x, 1, "y:1");
        x.manners(1);
        x.know(0, true);
        x.know(0, true);
        x.seed(5);
        for (int i = 0; i < 3; i++) {
            x.sitting();
        }
        feed(x, "m;m;");
        int[] due = {3, 1, 2, 4, 120, 1, 2, 3, 3, HIDDEN};
        for (int what = 0; what < due.length; what++) {
            due("count(" + what + ")", x.count(what), due[what]);
        }
        due("count(-1)", x.count(-1), HIDDEN);
        due("count(2147483647)", x.count(Integer.MAX_VALUE), HIDDEN);
        due("count(1) of a row", house("m;m").count(1), 0);
    }
}
