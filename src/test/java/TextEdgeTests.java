/** Edges of the TAPE and of both TEXTS: ==== 1 of the Terms, promises 1 to 5. */
public final class TextEdgeTests extends Edge {
    private static final String LETTERS = "vdeknyb";
    private static final int[] MOST = {1, 20, 99, 3, 7, 20, 99};
    private static final int[] USUAL = {1, 1, 0, 0, 7, 3, 10};

    public static void main(String[] args) {
        newObject();
        feeding();
        fullTape();
        ending();
        sorts();
        clauses();
        members();
        items();
        numbers();
        blanks();
        earlyEnds();
        houseBytes();
        mannersGrammar();
        mannersBytes();
        mannersEnds();
        mannersNumbers();
        depths();
        tellingHouses();
        tellingManners();
        refusedTexts();
        close();
    }

    private static void newObject() {
        sentence(1, "No HOUSE.");
        int[] counts = {0, 0, 0, 0, 0, NONE, 0, 0, 0};
        for (int what = 0; what < counts.length; what++) {
            due("count(" + what + ") of a new one", new MouthHouse().count(what), counts[what]);
        }
        due("seat(0) of a new one", new MouthHouse().seat(0), NONE);
        member(new MouthHouse(), 0, 0, THROWN);
        sentence(0, "NONE = -1");
        due("NONE", MouthHouse.NONE, -1);
        sentence(0, "HIDDEN = -100000000");
        due("HIDDEN", MouthHouse.HIDDEN, -100000000);
        sentence(0, "An object is used for at most 512 calls after it has been made");
        MouthHouse x = new MouthHouse();
        x.feed(0x6d3b6d00, 0, 0, 0, 0);
        x.text(0);
        for (int i = 3; i < 512; i++) {
            x.change(0, 1);
        }
        due("the 512th call", x.count(4), 10);
    }

    private static int bytesAt(int place, int number, int sign) {
        return place / 4 == number ? sign << 24 - place % 4 * 8 : 0;
    }

    private static int feedAt(MouthHouse x, int place, int sign) {
        return x.feed(bytesAt(place, 0, sign), bytesAt(place, 1, sign), bytesAt(place, 2, sign),
                bytesAt(place, 3, sign), bytesAt(place, 4, sign));
    }

    private static void feeding() {
        sentence(2, "Twenty bytes more come to the TAPE");
        due("twenty bytes", new MouthHouse().feed(-1, -1, -1, -1, -1), 20);
        for (int sign = 1; sign < 256; sign++) {
            due("a byte of " + sign, new MouthHouse().feed(sign << 24, sign << 16, sign << 8, sign, 0), 4);
        }
        sentence(2, "of each number the highest first");
        MouthHouse x = new MouthHouse();
        due("m;mv 0", x.feed('m' << 24 | ';' << 16 | 'm' << 8 | 'v', '0' << 24, 0, 0, 0), 5);
        due("text(0)", x.text(0), 2);
        member(x, 1, 0, 0);
        due("m ; m v 0", x.feed('m', ';' << 8, 'm' << 16, 'v' << 24, '0'), 5);
        due("text(0)", x.text(0), 2);
        member(x, 1, 0, 0);
        due("0 v m ; m", x.feed('0', 'v', 'm', ';', 'm'), 5);
        due("fault(0)", x.fault(0), 0);
        sentence(2, "bytes of 0 are left out");
        for (int place = 0; place < 20; place++) {
            due("one byte at " + place, feedAt(new MouthHouse(), place, 'm'), 1);
            due("no byte at " + place, x.feed(~bytesAt(place, 0, 255), ~bytesAt(place, 1, 255),
                    ~bytesAt(place, 2, 255), ~bytesAt(place, 3, 255), ~bytesAt(place, 4, 255)), 24);
            x.end(5);
        }
        due("nothing to something", x.feed(0, 0, 0, 0, 0), 5);
        due("nothing to nothing", new MouthHouse().feed(0, 0, 0, 0, 0), 0);
        MouthHouse apart = new MouthHouse();
        due("0s between signs", apart.feed('m' << 24 | ';', 0, 'm' << 16, 'v', '0' << 8), 5);
        due("text(0)", apart.text(0), 2);
        sentence(2, "how many it has");
        MouthHouse y = new MouthHouse();
        due("3", y.feed(0x6d3b6d00, 0, 0, 0, 0), 3);
        due("4", y.feed(';', 0, 0, 0, 0), 4);
        due("24", y.feed(-1, -1, -1, -1, -1), 24);
    }

    private static MouthHouse filled(int bytes) {
        MouthHouse x = new MouthHouse();
        due("feed", feed(x, "m".repeat(bytes)), bytes);
        return x;
    }

    private static void fullTape() {
        sentence(2, "NONE: more than 160.");
        due("the eighth twenty", filled(140).feed(-1, -1, -1, -1, -1), 160);
        due("20 to 141", filled(141).feed(-1, -1, -1, -1, -1), NONE);
        due("1 to 159", filled(159).feed(0, 0, 32, 0, 0), 160);
        due("2 to 159", filled(159).feed(32, 0, 0, 0, 32), NONE);
        due("1 to 160", filled(160).feed(0, 0, 0, 0, 1), NONE);
        due("nothing to 160", filled(160).feed(0, 0, 0, 0, 0), 160);
        MouthHouse x = filled(159);
        due("2 to 159", x.feed(0x20200000, 0, 0, 0, 0), NONE);
        due("not even the first of both came", x.count(3), 159);
        due("1 to 159", x.feed(0x20000000, 0, 0, 0, 0), 160);
        due("end(159)", x.end(159), true);
        due("there is room again", x.feed(0, 0, 0, 0, 7), 160);
        MouthHouse y = new MouthHouse();
        String long160 = "m;m" + " ".repeat(156) + ";";
        due("160 bytes", feed(y, long160), 160);
        due("all 160 count", y.fault(0), 160);
        due("the last byte", new StringBuilder(long160).charAt(159), ';');
        MouthHouse z = new MouthHouse();
        feed(z, "m;" + " ".repeat(157) + "m");
        due("the 160th byte is read", z.text(0), 2);
    }

    private static void ending() {
        sentence(3, "The TAPE has its first n bytes alone.");
        MouthHouse x = new MouthHouse();
        feed(x, "m;mk3x");
        due("end(6), all of it", x.end(6), true);
        due("count(3)", x.count(3), 6);
        due("fault(0)", x.fault(0), 5);
        due("end(3)", x.end(3), true);
        due("fault(0)", x.fault(0), NONE);
        due("the next come behind the first n", feed(x, "v0"), 5);
        due("text(0)", x.text(0), 2);
        member(x, 1, 0, 0);
        member(x, 1, 3, 0);
        due("end(0) of an empty one", x.end(0), true);
        feed(x, "m;m");
        due("end(0)", x.end(0), true);
        due("count(3)", x.count(3), 0);
        due("fault(0)", x.fault(0), 0);
        sentence(3, "False: n.");
        due("end(1) of an empty one", x.end(1), false);
        due("end(-1) of an empty one", x.end(-1), false);
        feed(x, "m;m");
        for (int n : new int[] {4, -1, 160, 161, LOWEST, HIGHEST}) {
            due("end(" + n + ") of 3", x.end(n), false);
            due("count(3)", x.count(3), 3);
        }
        due("end(2)", x.end(2), true);
        due("what is gone does not come again", x.end(3), false);
        MouthHouse full = filled(160);
        due("end(161) of 160", full.end(161), false);
        due("end(160) of 160", full.end(160), true);
    }

    private static void sorts() {
        sentence(4, "-2: no such sort.");
        MouthHouse x = new MouthHouse();
        for (String text : new String[] {"", "m;m"}) {
            feed(x, text);
            for (int sort : new int[] {-1, 2, -2, LOWEST, HIGHEST}) {
                due("fault(" + sort + ")", x.fault(sort), -2);
            }
        }
        sentence(4, "The FAULT of the TAPE as a HOUSE (0), MANNERS (1).");
        due("fault(0)", x.fault(0), NONE);
        due("fault(1)", x.fault(1), 0);
        x.end(0);
        feed(x, "y:1");
        due("fault(0)", x.fault(0), 0);
        sentence(4, "NONE: none.");
        due("fault(1)", x.fault(1), NONE);
        due("the TAPE is as it was", x.count(3), 3);
        due("no MANNERS were told", x.count(2), 0);
    }

    private static void clauses() {
        sentence(0, "CLAUSES with ; between");
        faulty(0, "", 0);
        faulty(0, ";", 0);
        faulty(0, ";m;m", 0);
        faulty(0, "m;;m", 2);
        faulty(0, "m;m;", 4);
        faulty(0, "mm;m", 1);
        faulty(0, "rm;m", 1);
        faulty(0, "m,m", 1);
        sentence(0, "r (the ROUND: seats are a ring; one at most)");
        for (int first = 0; first <= 3; first++) {
            String one = ringedAt(first, -1);
            faulty(0, one, NONE);
            asks(one, "count(1)", x -> x.count(1), 1);
            for (int second = first; second <= 3; second++) {
                String two = ringedAt(first, second);
                faulty(0, two, two.indexOf('r', two.indexOf('r') + 1));
            }
        }
        asks("m;m;m", "count(1)", x -> x.count(1), 0);
        sentence(0, "a second r");
        faulty(0, "r;r", 2);
        faulty(0, "r;m;m;r", 6);
        faulty(0, "m;m; r;  r;r", 9);
        faulty(0, "r1;m;m", 1);
        faulty(0, "rv1;m;m", 1);
        faulty(0, "R;m;m", 0);
    }

    /** Three MEMBERS, with r ahead of so many of them, once or twice. */
    private static String ringedAt(int first, int second) {
        StringBuilder text = new StringBuilder();
        for (int m = 0; m <= 3; m++) {
            text.append(m == first ? "r;" : "").append(m == second ? "r;" : "").append(m < 3 ? "m;" : "");
        }
        return text.substring(0, text.length() - 1);
    }

    private static void members() {
        sentence(0, "m (a MEMBER; 2 .. 7)");
        for (int many = 1; many <= 10; many++) {
            String row = "m;".repeat(many - 1) + "m";
            faulty(0, row, many < 2 ? 1 : many > 7 ? 14 : NONE);
            faulty(0, "r;" + row, many < 2 ? 3 : many > 7 ? 16 : NONE);
            faulty(0, row + ";r", many < 2 ? 3 : many > 7 ? 14 : NONE);
        }
        sentence(0, "an eighth m");
        faulty(0, "m;m;m;m;m;m;m; m", 15);
        faulty(0, "mv0;md9;m;mb1;m;me1;my2;mv9", 24);
        sentence(0, "the length, if it ends too early, with fewer than two MEMBERS");
        faulty(0, "r", 1);
        faulty(0, "m", 1);
        faulty(0, "r;m", 3);
        faulty(0, "m;r", 3);
        faulty(0, "mv1d20e99k3n7y20b99", 19);
        faulty(0, "m   ", 4);
        sentence(5, "how many MEMBERS");
        for (int many = 2; many <= 7; many++) {
            MouthHouse x = new MouthHouse();
            due("text(0)", told(x, 0, "m;".repeat(many - 1) + "m"), many);
            due("count(0)", x.count(0), many);
        }
    }

    private static void items() {
        sentence(0, "ITEMS, none or more");
        MouthHouse x = house("m;mb0y0n0k0e0d0v0;mv1d20e99k3n2y20b99");
        for (int item = 0; item < LETTERS.length(); item++) {
            member(x, 0, item, USUAL[item]);
            member(x, 1, item, 0);
            member(x, 2, item, item == 4 ? 2 : MOST[item]);
        }
        sentence(0, "each once at most in a CLAUSE");
        for (char letter : LETTERS.toCharArray()) {
            faulty(0, "m" + letter + "0;m" + letter + "0", NONE);
            faulty(0, "m" + letter + "0" + letter + "0;m", 3);
            for (char other : LETTERS.toCharArray()) {
                String between = "m;m" + letter + "1" + other + "1" + letter + "1";
                faulty(0, between, letter == other ? 5 : 7);
            }
        }
        sentence(0, "a letter that was there");
        faulty(0, "mv1d1e1k1n1y1b1 v1;m", 16);
        faulty(0, "mv1d1e1k1n1y1b1b;m", 15);
        faulty(0, "mv1v", 3);
        sentence(0, "(An ENEMY that is no MEMBER told is none: 7.)");
        for (int many = 2; many <= 7; many++) {
            for (int enemy = 0; enemy <= 7; enemy++) {
                MouthHouse y = house("mn" + enemy + ";m".repeat(many - 1));
                member(y, 0, 4, enemy < many ? enemy : 7);
            }
        }
        // it is none once and for all: another HOUSE has that MEMBER
        MouthHouse z = house("mn2;m");
        told(z, 0, "mn2;m;m");
        member(z, 0, 4, 2);
    }

    private static String boundOf(int item) {
        return new String[] {"0 no, 1 yes; 1 without", "d DELAY (0 .. 20; 1)", "e ERROR (0 .. 99 of 100; 0)",
            "k KIND (0 .. 3: 0 living, 1 dead, 2 a dummy, 3 deaf; 0)", "n ENEMY (0 .. 7; 7: none)",
            "y YAWN (0 .. 20; 3; 0: it never does)", "b what it costs (0 .. 99; 10)"}[item];
    }

    private static void numbers() {
        for (int item = 0; item < LETTERS.length(); item++) {
            sentence(0, boundOf(item));
            char letter = LETTERS.charAt(item);
            member(house("m;m"), 1, item, USUAL[item]);
            for (int value = 0; value < 100; value++) {
                String two = (value < 10 ? "0" : "") + value;
                bounded(item, "m;m" + letter, "" + value);
                bounded(item, "m;m" + letter, two);
            }
        }
        sentence(0, "a number (one or two digits)");
        for (char letter : LETTERS.toCharArray()) {
            faulty(0, "m" + letter, 2);
            faulty(0, "m" + letter + ";m", 2);
            faulty(0, "m" + letter + "m", 2);
            faulty(0, "m" + letter + "  ", 4);
            faulty(0, "m" + letter + letter, 2);
            faulty(0, "m" + letter + "-1;m", 2);
            faulty(0, "m" + letter + "+1;m", 2);
            faulty(0, "m" + letter + "/;m", 2);
            faulty(0, "m" + letter + ":;m", 2);
            faulty(0, "m" + letter + "1/;m", 3);
            faulty(0, "m" + letter + "1:;m", 3);
        }
        sentence(0, "a number out of bounds is wrong at its last digit");
        faulty(0, "mv2;m", 2);
        faulty(0, "mv2", 2);
        faulty(0, "mv  10;m", 5);
        faulty(0, "mv2 ;m", 2);
        faulty(0, "mv2x", 2);
        faulty(0, "mv21x", 3);
        sentence(0, "a third digit (a fifth one in MANNERS) itself, whatever stands ahead of it");
        for (char letter : LETTERS.toCharArray()) {
            for (String number : new String[] {"000", "001", "100", "210", "999", "0000", "9999999", "300"}) {
                faulty(0, "m;m" + letter + number, 6);
                faulty(0, "m;m" + letter + " " + number + ";m", 7);
            }
        }
    }

    private static void bounded(int item, String ahead, String number) {
        int value = Integer.parseInt(number);
        faulty(0, ahead + number, value > MOST[item] ? ahead.length() + number.length() - 1 : NONE);
        if (value <= MOST[item]) {
            member(house(ahead + number), 1, item, item == 4 && value > 1 ? 7 : value);
        }
    }

    private static String spread(String text, String blank) {
        StringBuilder wide = new StringBuilder(blank);
        for (int i = 0; i < text.length(); i++) {
            boolean within = i + 1 < text.length() && Character.isDigit(text.charAt(i))
                    && Character.isDigit(text.charAt(i + 1));
            wide.append(text.charAt(i)).append(within ? "" : blank);
        }
        return wide.toString();
    }

    private static void blanks() {
        sentence(0, "Blanks (32) may stand between all signs of both, not within numbers.");
        faulty(0, spread("r;mv0d20e99;mk3n0", " "), NONE);
        faulty(0, spread("r;mv0d20e99;mk3n0", "   "), NONE);
        faulty(1, spread("y:!(v=10&w<2|d>3)?[e+n]*1234/s;y:0-9", " "), NONE);
        faulty(1, spread("y:!(v=10&w<2|d>3)?[e+n]*1234/s;y:0", "  "), NONE);
        faulty(0, "m;md1 2", 6);
        faulty(0, "m;mv1 0", 6);
        faulty(0, "m;mv  0  0", 9);
        faulty(1, "y:1 2", 4);
        faulty(1, "y:1+1  2", 7);
        for (int sign : new int[] {9, 10, 11, 12, 13, 31, 33, 160}) {
            faulty(0, "m;m" + (char) sign, 3);
            faulty(0, "m" + (char) sign + ";m", 1);
            faulty(1, "y" + (char) sign + ":1", 1);
            faulty(1, "y:1" + (char) sign, 3);
        }
        faulty(0, " ".repeat(157) + "m;m", NONE);
        faulty(0, " ".repeat(160), 160);
        faulty(1, " ".repeat(160), 160);
        faulty(1, "y:1" + " ".repeat(157), NONE);
    }

    /** Each beginning of a text: none, if it is a text itself, else the length. */
    private static void beginnings(int sort, String text, int... whole) {
        MouthHouse x = new MouthHouse();
        feed(x, text);
        for (int n = text.length(); n >= 0; n--) {
            due("end(" + n + ")", x.end(n), true);
            int want = n;
            for (int one : whole) {
                want = one == n ? NONE : want;
            }
            due("fault(" + sort + ") of '" + text.substring(0, n) + "'", x.fault(sort), want);
        }
    }

    private static void earlyEnds() {
        sentence(0, "FAULT: the first byte at which no such TEXT can go on (the length, if it ends too early");
        beginnings(0, "r;mv1d20;mn7e9 ;  m", 10, 12, 14, 15, 19);
        beginnings(0, "mb99;my0;r;mk3", 6, 8, 10, 12, 14);
        String manners = "y:!(v=1|w<2&d>3)&[e+n]*2=s-1?[v]/2;y : 0 ";
        int then = manners.indexOf('?');
        beginnings(1, manners, then + 4, then + 6, manners.length() - 1, manners.length());
        beginnings(1, "y:12*[3]", 3, 4, 8);
    }

    /** Behind such a beginning: signs that make it a text, signs by which it can go on, and all others. */
    private static void behind(int sort, String start, String whole, String more) {
        for (int sign = 1; sign < 256; sign++) {
            MouthHouse x = new MouthHouse();
            String text = start + (char) sign;
            feed(x, text);
            boolean isWhole = whole.indexOf(sign) >= 0;
            boolean goesOn = more.indexOf(sign) >= 0;
            due("fault(" + sort + ") of '" + text + "'", x.fault(sort),
                    isWhole ? NONE : goesOn ? text.length() : start.length());
        }
    }

    private static void houseBytes() {
        sentence(0, "FAULT: the first byte at which no such TEXT can go on");
        behind(0, "", "", "rm ");
        behind(0, "r", "", "; ");
        behind(0, "m", "", "; vdeknyb");
        behind(0, "m;", "m", "r ");
        behind(0, "r;m;", "m", " ");
        behind(0, "m;m", " ", ";vdeknyb");
        behind(0, "m;r", "", "; ");
        behind(0, "m;m;r", " ", ";");
        behind(0, "m;m;", "rm", " ");
        behind(0, "m;m;m;m;m;m;m;", "r", " ");
        behind(0, "m;mv1", " ", ";deknyb");
        behind(0, "m;mv", "01", " ");
        behind(0, "m;mv0", "01 ", ";deknyb");
        behind(0, "m;mk0", "0123 ", ";vdenyb");
        behind(0, "m;mk1", " ", ";vdenyb");
        behind(0, "m;md2", "0 ", ";veknyb");
        behind(0, "m;md1", "0123456789 ", ";veknyb");
        behind(0, "m;mn", "01234567", " ");
        behind(0, "m;mk", "0123", " ");
        behind(0, "m;mb9", "0123456789 ", ";vdekny");
    }

    private static void mannersGrammar() {
        sentence(0, "CLAUSES with ; between, one at least: y, : , perhaps CONDITION ?, then SUM.");
        faulty(1, "", 0);
        faulty(1, ";", 0);
        faulty(1, "y:1;", 4);
        faulty(1, "y:1;;y:1", 4);
        faulty(1, "y:1;y:v=1?2;y:3", NONE);
        faulty(1, "y:1 y:2", 4);
        faulty(1, "y:", 2);
        faulty(1, "y:?1", 2);
        faulty(1, "y:v=1?", 6);
        faulty(1, "y:v=1?1?1", 7);
        faulty(1, "y:1?1", 3);
        sentence(0, "CONDITION: TRUTHS with | between; TRUTH: UNITS with & between");
        faulty(1, "y:v=1|w=1&s=1|d=1?1", NONE);
        faulty(1, "y:|v=1?1", 2);
        faulty(1, "y:&v=1?1", 2);
        faulty(1, "y:v=1|?1", 6);
        faulty(1, "y:v=1&?1", 6);
        faulty(1, "y:v=1&&v=1?1", 6);
        faulty(1, "y:v=1|&v=1?1", 6);
        sentence(0, "UNIT: ! UNIT, ( CONDITION ), or SUM, one of = < >, SUM.");
        faulty(1, "y:!?1", 3);
        faulty(1, "y:()?1", 3);
        faulty(1, "y:(v=1?1", 6);
        faulty(1, "y:v=1)?1", 5);
        faulty(1, "y:v=1=1?1", 5);
        faulty(1, "y:v<=1?1", 4);
        faulty(1, "y:v!1?1", 3);
        faulty(1, "y:=1?1", 2);
        faulty(1, "y:v=?1", 4);
        faulty(1, "y:(v=1)=1?1", 7);
        faulty(1, "y:(v+1)*2=1?1", 6);
        sentence(0, "SUM: TERMS with + or - between; TERM: ATOMS with * or / between");
        faulty(1, "y:1+2-3*4/5", NONE);
        faulty(1, "y:+1", 2);
        faulty(1, "y:-1", 2);
        faulty(1, "y:1--1", 4);
        faulty(1, "y:1*", 4);
        faulty(1, "y:1*/2", 4);
        faulty(1, "y:1%2", 3);
        sentence(0, "a letter (v w d e n s), [ SUM ]");
        for (char letter = 'a'; letter <= 'z'; letter++) {
            faulty(1, "y:" + letter, "vwdens".indexOf(letter) >= 0 ? NONE : 2);
            faulty(1, "y:1<" + letter + "?" + letter, "vwdens".indexOf(letter) >= 0 ? NONE : 4);
        }
        faulty(1, "y:[]", 3);
        faulty(1, "y:[1", 4);
        faulty(1, "y:1]", 3);
        faulty(1, "y:[1)", 4);
        faulty(1, "y:[1=1]?1", 4);
        faulty(1, "y:[!1]", 3);
        faulty(1, "y:[(1)]", 3);
        sentence(0, "(A CLAUSE that goes on with ! or ( behind its : has a CONDITION.)");
        faulty(1, "y:(1)", 4);
        faulty(1, "y:(1)+1", 4);
        faulty(1, "y:!1", 4);
        faulty(1, "y:(v=1)", 7);
        faulty(1, "y:!v=1", 6);
        faulty(1, "y:!v=1;y:1", 6);
        faulty(1, "y:(v=1);y:1", 7);
        faulty(1, "y: (v=1)?1", NONE);
        faulty(1, "y:v=1?(1)", 6);
        faulty(1, "y:v=1?!1", 6);
    }

    private static void mannersBytes() {
        sentence(0, "FAULT: the first byte at which no such TEXT can go on");
        behind(1, "", "", "y ");
        behind(1, "y", "", ": ");
        behind(1, "y:", "0123456789vwdens", "[(! ");
        behind(1, "y:1", "0123456789 ", "+-*/=<>;");
        behind(1, "y:v", " ", "+-*/=<>;");
        behind(1, "y:1;", "", "y ");
        behind(1, "y:1+", "0123456789vwdens", "[ ");
        behind(1, "y:1*", "0123456789vwdens", "[ ");
        behind(1, "y:v=", "", "0123456789vwdens[ ");
        behind(1, "y:v=1", "", "0123456789+-*/&|? ");
        behind(1, "y:v=w", "", "+-*/&|? ");
        behind(1, "y:v=1?", "0123456789vwdens", "[ ");
        behind(1, "y:v=1?1", "0123456789 ", "+-*/;");
        behind(1, "y:v=1&", "", "0123456789vwdens[(! ");
        behind(1, "y:v=1|", "", "0123456789vwdens[(! ");
        behind(1, "y:[", "", "0123456789vwdens[ ");
        behind(1, "y:[1", "]", "0123456789+-*/ ");
        behind(1, "y:[1]", " ", "+-*/=<>;");
        behind(1, "y:(", "", "0123456789vwdens[(! ");
        behind(1, "y:(v", "", "+-*/=<> ");
        behind(1, "y:(v=w", "", "+-*/&|) ");
        behind(1, "y:(v=1)", "", "&|? ");
        behind(1, "y:!", "", "0123456789vwdens[(! ");
        behind(1, "y:!v", "", "+-*/=<> ");
        behind(1, "y:!v=w", "", "+-*/&|? ");
        behind(1, "y:1234", " ", "+-*/=<>;");
    }

    private static void mannersEnds() {
        sentence(0, "MANNERS (4 at most)");
        MouthHouse x = new MouthHouse();
        for (int i = 0; i < 4; i++) {
            due("MANNERS " + i, told(x, 1, "y:" + i), i);
            due("count(2)", x.count(2), i + 1);
        }
        due("a fifth", told(x, 1, "y:4"), NONE);
        due("count(2)", x.count(2), 4);
    }

    private static void mannersNumbers() {
        sentence(0, "ATOM: a number (1 to 4 digits)");
        String[] places = {"y:%;y:1", "y:1+%", "y:[%]", "y:%=1?1", "y:1>%?1", "y:v=1?%", "y:!(d<%|1=1)?1", "y:[2*%]/1"};
        for (String place : places) {
            int at = place.indexOf('%');
            for (String number : new String[] {"0", "7", "00", "99", "000", "123", "0000", "0001", "9999"}) {
                faulty(1, place.replace("%", number), NONE);
            }
            faulty(1, place.replace("%", ""), at);
        }
        sentence(0, "a fifth one in MANNERS");
        for (String place : places) {
            int at = place.indexOf('%');
            for (String number : new String[] {"00000", "00001", "10000", "99999", "123456", "000000000"}) {
                faulty(1, place.replace("%", number), at + 4);
            }
        }
        faulty(1, "y:v12345", 3);
        faulty(1, "y:[1]12345", 5);
    }

    private static void depths() {
        sentence(0, "At most six of ( [ ! within one another.");
        for (int outer = 0; outer <= 7; outer++) {
            for (int bits = 0; bits < 1 << outer; bits++) {
                StringBuilder open = new StringBuilder();
                for (int i = 0; i < outer; i++) {
                    open.append((bits >> i & 1) == 0 ? '(' : '!');
                }
                String shut = ")".repeat(outer - Integer.bitCount(bits));
                for (int inner = 0; inner <= 7; inner++) {
                    String text = "y:" + open + "[".repeat(inner) + "v" + "]".repeat(inner) + "=1" + shut + "?1";
                    MouthHouse x = new MouthHouse();
                    feed(x, text);
                    due("fault(1) of '" + text + "'", x.fault(1), outer + inner <= 6 ? NONE : 8);
                }
            }
        }
        sentence(0, "a seventh of ( [ ! at it");
        faulty(1, "y:[[[[[[ [1]]]]]]]", 9);
        faulty(1, "y:v=[[[[[[[1]]]]]]]?1", 10);
        faulty(1, "y:v=1?[[[[[[[1]]]]]]]", 12);
        faulty(1, "y:1;y:[[[[[[[1]]]]]]]", 12);
        faulty(1, "y:((((((v=1&[1]=1))))))?1", 12);
        faulty(1, "y:((((((v=1&!v=1))))))?1", 12);
        faulty(1, "y:((((((v=1|(v=1)))))))?1", 12);
        faulty(1, "y:!!!!!!v=[1]?1", 10);
        faulty(1, "y:!!!!!!(v=1)?1", 8);
        sentence(0, "within one another");
        faulty(1, "y:" + "[1]+".repeat(20) + "1", NONE);
        faulty(1, "y:" + "!v=1&".repeat(20) + "v=1?1", NONE);
        faulty(1, "y:" + "(v=1)|".repeat(20) + "v=1?1", NONE);
        faulty(1, "y:!v=1&[[[[[[1]]]]]]=1?1", NONE);
        faulty(1, "y:((((((v=1))))))&((((((v=1))))))?[[[[[[1]]]]]]", NONE);
        faulty(1, "y:[[[[[[1]]]]]]=[[[[[[1]]]]]]?[[[[[[1]]]]]]*[[[[[[1]]]]]]", NONE);
        faulty(1, "y:(((((!v=1)&!v=1)&!v=1)&!v=1)&!v=1)&!v=1?1", NONE);
        faulty(1, "y:[[[[[[1]+[1]]+[1]]+[1]]+[1]]+[1]]", NONE);
    }

    private static void tellingHouses() {
        sentence(5, "The TAPE (empty then) is the HOUSE");
        MouthHouse x = new MouthHouse();
        due("a ring of seven", told(x, 0, "r;m;m;m;m;m;m;mv0d2e3k2n1y4b5"), 7);
        due("count(3)", x.count(3), 0);
        due("fault(0)", x.fault(0), 0);
        due("the TAPE is empty: no HOUSE", x.text(0), NONE);
        due("a row of two", told(x, 0, "m;m"), 2);
        due("count(0)", x.count(0), 2);
        due("count(1)", x.count(1), 0);
        due("count(4)", x.count(4), 1);
        member(x, 2, 0, THROWN);
        due("seat(2)", x.seat(2), NONE);
        for (int m = 0; m < 2; m++) {
            for (int item = 0; item < USUAL.length; item++) {
                member(x, m, item, USUAL[item]);
            }
        }
        due("seven again", told(x, 0, "m;m;m;m;m;m;m"), 7);
        member(x, 6, 0, 1);
        member(x, 6, 3, 0);
        member(x, 6, 4, 7);
        sentence(5, "KNOWN, SITTINGS, the IMAGE of another one are gone; MANNERS, which hold, draws stay");
        MouthHouse y = house("m;m;m");
        for (int i = 0; i < 4; i++) {
            told(y, 1, "y:" + (i + 1));
        }
        y.manners(3);
        for (int i = 0; i < 20; i++) {
            y.know(0, true);
        }
        for (int i = 0; i < 40; i++) {
            y.sitting();
        }
        y.sit(210);
        due("image()", y.image(), 40);
        due("text(0)", told(y, 0, "m;m;m"), 3);
        due("count(6)", y.count(6), 0);
        due("fits(-1)", y.fits(-1), 8);
        due("know(0, true)", y.know(0, true), 1);
        due("count(7)", y.count(7), 0);
        due("count(8)", y.count(8), 0);
        due("sat(0, 0)", y.sat(0, 0), NONE);
        due("undo()", y.undo(), NONE);
        due("back()", y.back(), NONE);
        due("count(4)", y.count(4), 12);
        due("count(2)", y.count(2), 4);
        due("count(5)", y.count(5), 3);
        due("ill()", y.ill(), 8);
        // draws of seed 0: 7 24 37 36 25 91
        MouthHouse z = house("me7;m");
        due("the first draw, 7, is not below 7", z.sitting(), 1);
        told(z, 0, "me25;m");
        due("the second, 24, is below 25", z.sitting(), 0);
        told(z, 0, "me37;m");
        due("the third, 37, is not below 37", z.sitting(), 1);
    }

    private static void tellingManners() {
        sentence(5, "MANNERS: their number.");
        MouthHouse x = new MouthHouse();
        due("without a HOUSE", told(x, 1, "y:5"), 0);
        due("count(3)", x.count(3), 0);
        due("the TAPE is empty: no MANNERS", x.text(1), NONE);
        due("count(5), they do not hold yet", x.count(5), NONE);
        due("text(0)", told(x, 0, "m;m"), 2);
        x.know(0, true);
        x.image();
        x.sitting();
        due("with one", told(x, 1, "y:6"), 1);
        due("KNOWN stay", x.count(6), 1);
        due("SITTINGS stay", x.count(7), 1);
        due("the IMAGE stays", x.back(), 0);
        due("manners(1)", x.manners(1), true);
        due("ill()", x.ill(), 6);
        due("manners(0)", x.manners(0), true);
        due("ill()", x.ill(), 5);
        due("others are told", told(x, 1, "y:7"), 2);
        due("those that held hold", x.ill(), 5);
    }

    private static void refusedTexts() {
        sentence(5, "NONE: a FAULT, no such sort, there are four MANNERS.");
        MouthHouse x = new MouthHouse();
        due("text(0) of nothing", x.text(0), NONE);
        due("text(1) of nothing", x.text(1), NONE);
        feed(x, "m;mv2");
        due("text(0) with a FAULT", x.text(0), NONE);
        due("text(1) of a HOUSE", x.text(1), NONE);
        due("count(0)", x.count(0), 0);
        due("count(3)", x.count(3), 5);
        due("end(3)", x.end(3), true);
        for (int sort : new int[] {-1, 2, LOWEST, HIGHEST}) {
            due("text(" + sort + ")", x.text(sort), NONE);
            due("count(3)", x.count(3), 3);
        }
        due("text(0)", x.text(0), 2);
        for (int i = 0; i < 4; i++) {
            due("text(1)", told(x, 1, "y:1"), i);
        }
        due("a fifth", told(x, 1, "y:1"), NONE);
        due("count(3)", x.count(3), 3);
        due("a fifth with a FAULT", told(x, 1, "y:1x"), NONE);
        due("count(3)", x.count(3), 4);
        due("fault(1)", x.fault(1), 3);
        due("a HOUSE all the same", told(x, 0, "m;m;m"), 3);
        due("a fifth all the same", told(x, 1, "y:1"), NONE);
    }
}
