import java.io.IOException;
import java.nio.file.Files;
import java.nio.file.Path;
import java.util.NoSuchElementException;
import java.util.TreeSet;

/** What the edge tests share: sentences of the document, each with the answers that would show it broken. */
class Edge {
    static final int NONE = MouthHouse.NONE;
    static final int HIDDEN = MouthHouse.HIDDEN;
    static final int LOWEST = Integer.MIN_VALUE;
    static final int HIGHEST = Integer.MAX_VALUE;
    /** Stands for the exception of member(..). */
    static final int THROWN = -77;

    interface Call {
        long on(MouthHouse x);
    }

    private static final TreeSet<Integer> PROMISES = new TreeSet<>();
    private static String document = null;
    private static String where = "";
    private static int sentences = 0;
    private static int asked = 0;
    private static int askedHere = 0;
    private static int wrong = 0;

    /** From here on answers are asked for by which this sentence would be broken (promise 0: one of the Terms). */
    static void sentence(int promise, String words) {
        leaveSentence();
        if (!document().contains(words)) {
            System.out.println("(the document no longer says: " + words + ")");
        }
        PROMISES.add(promise);
        where = (promise == 0 ? "terms" : "promise " + promise) + ", \"" + words + "\"";
        sentences++;
        askedHere = 0;
    }

    private static void leaveSentence() {
        if (!where.isEmpty() && askedHere == 0) {
            wrong++;
            System.out.println(where + ": nothing is asked");
        }
    }

    private static String document() {
        if (document == null) {
            try {
                document = Files.readString(Path.of("../shared/DOC.md"));
            } catch (IOException e) {
                document = "";
            }
        }
        return document;
    }

    static void close() {
        leaveSentence();
        System.out.println(sentences + " sentences of promises " + PROMISES + ", " + asked + " answers, " + wrong
                + " not as due");
        if (wrong != 0) {
            System.exit(1);
        }
    }

    static void due(String call, long got, long want) {
        asked++;
        askedHere++;
        if (got != want) {
            wrong++;
            if (wrong <= 50) {
                System.out.println(where + ": " + call + " answered " + got + ", due is " + want);
            }
        }
    }

    static void due(String call, boolean got, boolean want) {
        due(call, got ? 1 : 0, want ? 1 : 0);
    }

    static int feed(MouthHouse house, String text) {
        int has = house.count(3);
        for (int from = 0; from < text.length(); from += 20) {
            int[] five = new int[5];
            for (int i = 0; i < 20 && from + i < text.length(); i++) {
                five[i / 4] |= text.charAt(from + i) << 24 - i % 4 * 8;
            }
            has = house.feed(five[0], five[1], five[2], five[3], five[4]);
        }
        return has;
    }

    static int told(MouthHouse x, int sort, String text) {
        x.end(0);
        feed(x, text);
        return x.text(sort);
    }

    static MouthHouse house(String text) {
        MouthHouse x = new MouthHouse();
        due("text(0) of " + text + " is refused", told(x, 0, text) == NONE, false);
        return x;
    }

    /** That many MEMBERS of whom nothing is told. */
    static MouthHouse plain(int members, boolean ring) {
        return house((ring ? "r;" : "") + "m;".repeat(members - 1) + "m");
    }

    static MouthHouse polite(String house, String manners) {
        MouthHouse x = house(house);
        due("text(1) of " + manners, told(x, 1, manners), 0);
        due("manners(0)", x.manners(0), true);
        return x;
    }

    static int member(MouthHouse x, int member, int what) {
        try {
            return x.member(member, what);
        } catch (NoSuchElementException e) {
            return e.getClass() == NoSuchElementException.class ? THROWN : THROWN - 1;
        }
    }

    static void member(MouthHouse x, int member, int what, int want) {
        due("member(" + member + ", " + what + ")", member(x, member, what), want);
    }

    /** Asks on a HOUSE, so that an answer stands beside the text that it hangs on. */
    static void asks(String text, String call, Call asked, long want) {
        due(call + " of " + text, asked.on(house(text)), want);
    }

    /** The FAULT, twice, since asking changes nothing; and whether the text is refused by it. */
    static void faulty(int sort, String text, int want) {
        MouthHouse x = new MouthHouse();
        due("feed of '" + text + "'", feed(x, text), text.length());
        due("fault(" + sort + ") of '" + text + "'", x.fault(sort), want);
        due("fault(" + sort + ") again", x.fault(sort), want);
        due("text(" + sort + ") of '" + text + "' is refused", x.text(sort) == NONE, want != NONE);
        due("count(3) behind '" + text + "'", x.count(3), want == NONE ? 0 : text.length());
    }
}
