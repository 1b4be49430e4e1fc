import java.util.ArrayList;
import java.util.List;

/**
 * What is refused changes nothing: of two objects made alike one takes the refused call, then both are asked everything,
 * with calls that change them, too, so that draws, KNOWN and the IMAGE are seen.
 */
public final class RefusalTests extends Edge {
    private static final String RESTLESS = "r;me50;mv0e45;me55d3n0b4;mv0k2e20y0";

    private interface State {
        MouthHouse make();
    }

    private static State state;
    private static String stateName;

    public static void main(String[] args) {
        inState("a new one", MouthHouse::new);
        whatNobodyHas();
        withoutHouse();
        inState("a HOUSE alone", RefusalTests::few);
        whatNobodyHas();
        withoutAnything();
        inState("a HOUSE with some of everything", RefusalTests::some);
        whatNobodyHas();
        withSome();
        asking();
        inState("a HOUSE with all that it can hold", RefusalTests::full);
        whatNobodyHas();
        whatIsFull();
        asking();
        close();
    }

    private static void inState(String name, State one) {
        stateName = name;
        state = one;
        state.make();
    }

    private static MouthHouse few() {
        MouthHouse x = new MouthHouse();
        told(x, 0, RESTLESS);
        return x;
    }

    private static MouthHouse some() {
        MouthHouse x = few();
        told(x, 1, "y:1+d*s");
        told(x, 1, "y:n=1?9;y:e-v");
        x.manners(1);
        x.seed(42);
        x.sitting();
        x.sitting();
        x.sit(2031);
        x.set(1, 0, 1);
        x.image();
        x.sitting();
        x.set(3, 1, 0);
        x.change(1, 2);
        x.know(0, true);
        x.know(3, false);
        feed(x, "m;mv0;m;");
        return x;
    }

    private static MouthHouse full() {
        MouthHouse x = some();
        told(x, 1, "y:2");
        told(x, 1, "y:s");
        for (int i = 0; i < 18; i++) {
            x.know(i % 2 == 0 ? 0 : 3, i % 2 == 0);
        }
        for (int i = 0; i < 37; i++) {
            x.sitting();
        }
        feed(x, "m;m".repeat(53) + "x");
        return x;
    }

    /** Everything that can be asked, on one of both ways: as it stands, or behind BACK. */
    private static List<Long> shown(MouthHouse x, boolean back) {
        List<Long> all = new ArrayList<>();
        if (back) {
            all.add((long) x.back());
        }
        for (int what = 0; what <= 8; what++) {
            all.add((long) x.count(what));
        }
        for (int m = 0; m < x.count(0); m++) {
            for (int what = 0; what < 10; what++) {
                all.add((long) x.member(m, what));
            }
        }
        for (int sort = 0; sort < 2; sort++) {
            all.add((long) x.fault(sort));
            all.add((long) x.fits(sort - 1));
            all.add((long) x.sure(sort == 0));
            all.add((long) x.bribe(sort));
            all.add((long) x.changes(sort));
            all.add((long) x.best(0, sort));
        }
        for (int i = 0; i < 40; i++) {
            all.add((long) x.sat(i, 0));
            all.add((long) x.sat(i, 1));
        }
        showTape(x, all);
        for (int held = NONE; held < 4; held++) {
            all.add(x.manners(held) ? 1L : 0);
            all.add((long) x.ill());
        }
        // a HOUSE told now shows which draws come next
        all.add((long) told(x, 0, RESTLESS));
        for (int i = 0; i < 12; i++) {
            all.add((long) x.sitting());
        }
        return all;
    }

    /** A FAULT shows one byte of the TAPE, so it is looked at from all its ends. */
    private static void showTape(MouthHouse x, List<Long> all) {
        for (int n = x.count(3); n >= 0; n -= 5) {
            all.add(x.end(n) ? 1L : 0);
            all.add((long) x.fault(0));
        }
    }

    private static void unchanged(String call, Call asked) {
        for (int way = 0; way < 2; way++) {
            MouthHouse one = state.make();
            MouthHouse other = state.make();
            asked.on(one);
            due("what " + stateName + " is behind " + call + " is as it was",
                    shown(one, way == 1).equals(shown(other, way == 1)), true);
        }
    }

    private static void refused(String call, Call asked, long want) {
        due(call + " of " + stateName, asked.on(state.make()), want);
        unchanged(call, asked);
    }

    private static void refusedTelling(int sort, String text) {
        MouthHouse x = state.make();
        due("text(" + sort + ") of " + text, told(x, sort, text), NONE);
        for (int way = 0; way < 2; way++) {
            MouthHouse one = state.make();
            MouthHouse other = state.make();
            told(one, sort, text);
            other.end(0);
            feed(other, text);
            due("what " + stateName + " is behind text(" + sort + ") of " + text,
                    shown(one, way == 1).equals(shown(other, way == 1)), true);
        }
    }

    private static final String RULE = "What is refused answers as told and changes nothing.";

    /** Refused in every state. */
    private static void whatNobodyHas() {
        sentence(0, RULE);
        for (int far : new int[] {-1, 7, LOWEST, HIGHEST}) {
            refused("member(" + far + ", 0)", x -> member(x, far, 0), THROWN);
            refused("seat(" + far + ")", x -> x.seat(far), NONE);
            refused("set(" + far + ", 0, 0)", x -> x.set(far, 0, 0) ? 1 : 0, 0);
            refused("set(" + far + ", 1, 1)", x -> x.set(far, 1, 1) ? 1 : 0, 0);
            refused("set(0, " + far + ", 0)", x -> x.set(0, far, 0) ? 1 : 0, 0);
            refused("set(0, 0, " + far + ")", x -> x.set(0, 0, far) ? 1 : 0, 0);
            refused("set(0, 1, " + far + ")", x -> x.set(0, 1, far) ? 1 : 0, 0);
            refused("change(0, " + far + ")", x -> x.change(0, far) ? 1 : 0, 0);
            refused("change(" + far + ", 0)", x -> x.change(far, 0) ? 1 : 0, 0);
            refused("sit(" + far + ")", x -> x.sit(far) ? 1 : 0, 0);
            refused("round(" + far + ", 0, 0)", x -> x.round(far, 0, 0), NONE);
            refused("round(0, 0, " + far + ")", x -> x.round(0, 0, far), NONE);
            refused("tally(" + far + ")", x -> x.tally(far), NONE);
            refused("bribe(" + far + ")", x -> x.bribe(far), NONE);
            refused("yawn(" + far + ", 0)", x -> x.yawn(far, 0), NONE);
            refused("yawn(0, " + far + ")", x -> x.yawn(0, far), NONE);
            refused("yawns(" + far + ", 0)", x -> x.yawns(far, 0), NONE);
            refused("yawns(0, " + far + ")", x -> x.yawns(0, far), NONE);
            refused("best(" + far + ", 0)", x -> x.best(far, 0), HIDDEN);
            refused("best(0, " + far + ")", x -> x.best(0, far), HIDDEN);
            refused("changes(" + far + ")", x -> x.changes(far), NONE);
            refused("know(" + far + ", true)", x -> x.know(far, true), NONE);
            refused("sat(0, " + far + ")", x -> x.sat(0, far), NONE);
            refused("fault(" + far + ")", x -> x.fault(far), -2);
            refused("text(" + far + ")", x -> x.text(far), NONE);
        }
        for (int far : new int[] {-1, 161, LOWEST, HIGHEST}) {
            refused("end(" + far + ")", x -> x.end(far) ? 1 : 0, 0);
        }
        for (int far : new int[] {-2, 4, LOWEST, HIGHEST}) {
            refused("manners(" + far + ")", x -> x.manners(far) ? 1 : 0, 0);
            int row = far == 4 ? 128 : far;
            refused("fits(" + row + ")", x -> x.fits(row), NONE);
        }
        refused("change(0, 0)", x -> x.change(0, 0) ? 1 : 0, 0);
        refused("sat(40, 0)", x -> x.sat(40, 0), NONE);
        refused("round(0, 8, 0)", x -> x.round(0, 8, 0), NONE);
        refused("odds(-1)", x -> x.odds(-1), NONE);
        refused("text(0) of the TAPE", x -> x.text(0), NONE);
        refused("text(1) of the TAPE", x -> x.text(1), NONE);
        faultyTexts();
    }

    private static void faultyTexts() {
        for (String text : new String[] {"", "m", "m;m;", "m;mv2", "r;m;m;r", "m;m;m;m;m;m;m;m", "mv0k1;mv0k1x", "y:1"}) {
            refusedTelling(0, text);
        }
        for (String text : new String[] {"", "y:", "y:1;", "y:1;y:v=1", "y:12345", "y:[[[[[[[1]]]]]]]", "m;m"}) {
            refusedTelling(1, text);
        }
    }

    private static void withoutHouse() {
        sentence(0, RULE);
        refused("image()", x -> x.image(), NONE);
        refused("back()", x -> x.back(), NONE);
        refused("undo()", x -> x.undo(), NONE);
        refused("sitting()", x -> x.sitting(), NONE);
        refused("know(0, true)", x -> x.know(0, true), NONE);
        refused("sit(0)", x -> x.sit(0) ? 1 : 0, 0);
        refused("set(0, 0, 0)", x -> x.set(0, 0, 0) ? 1 : 0, 0);
        refused("change(0, 1)", x -> x.change(0, 1) ? 1 : 0, 0);
        refused("end(1)", x -> x.end(1) ? 1 : 0, 0);
        refused("manners(0)", x -> x.manners(0) ? 1 : 0, 0);
        refused("fits(NONE)", x -> x.fits(NONE), NONE);
        refused("sure(true)", x -> x.sure(true), NONE);
        refused("odds(0)", x -> x.odds(0), NONE);
        refused("passed()", x -> x.passed(), NONE);
        refused("turner()", x -> x.turner(), NONE);
        refused("ill()", x -> x.ill(), HIDDEN);
        refused("best(2, 1)", x -> x.best(2, 1), HIDDEN);
        refused("changes(1)", x -> x.changes(1), NONE);
        refused("member(0, 0)", x -> member(x, 0, 0), THROWN);
    }

    private static void withoutAnything() {
        sentence(0, RULE);
        refused("back()", x -> x.back(), NONE);
        refused("undo()", x -> x.undo(), NONE);
        refused("manners(0)", x -> x.manners(0) ? 1 : 0, 0);
        refused("end(1)", x -> x.end(1) ? 1 : 0, 0);
        refused("know(4, true)", x -> x.know(4, true), NONE);
        refused("sat(0, 0)", x -> x.sat(0, 0), NONE);
        refused("member(4, 0)", x -> member(x, 4, 0), THROWN);
        refused("member(0, 10)", x -> member(x, 0, 10), THROWN);
        refused("fits(16)", x -> x.fits(16), NONE);
    }

    private static void withSome() {
        sentence(0, RULE);
        refused("a VOTE as it is", x -> x.set(1, 0, 1) ? 1 : 0, 0);
        refused("a KIND as it is", x -> x.set(3, 1, 0) ? 1 : 0, 0);
        refused("a VOTE of 2", x -> x.set(1, 0, 2) ? 1 : 0, 0);
        refused("a KIND of 4", x -> x.set(1, 1, 4) ? 1 : 0, 0);
        refused("what 2", x -> x.set(1, 2, 0) ? 1 : 0, 0);
        refused("set(4, 0, 0)", x -> x.set(4, 0, 0) ? 1 : 0, 0);
        refused("change(3, 4)", x -> x.change(3, 4) ? 1 : 0, 0);
        refused("change(3, 3)", x -> x.change(3, 3) ? 1 : 0, 0);
        for (int digits : new int[] {0, 12, 1234, 1233, 10123, 3333, -3210}) {
            refused("sit(" + digits + ")", x -> x.sit(digits) ? 1 : 0, 0);
        }
        refused("manners(2)", x -> x.manners(2) ? 1 : 0, 0);
        refused("end(9)", x -> x.end(9) ? 1 : 0, 0);
        refused("know(4, true)", x -> x.know(4, true), NONE);
        refused("sat(3, 0)", x -> x.sat(3, 0), NONE);
        refused("sat(0, 2)", x -> x.sat(0, 2), NONE);
    }

    private static void whatIsFull() {
        sentence(0, RULE);
        refused("a byte more", x -> x.feed(0, 0, 0, 0, 'm'), NONE);
        refused("twenty bytes more", x -> x.feed(-1, -1, -1, -1, -1), NONE);
        refused("a 21st KNOWN", x -> x.know(1, true), NONE);
        refused("a 41st SITTING", x -> x.sitting(), NONE);
        refusedTelling(1, "y:77");
        refused("manners(4)", x -> x.manners(4) ? 1 : 0, 0);
        refused("end(161)", x -> x.end(161) ? 1 : 0, 0);
        refused("sat(40, 1)", x -> x.sat(40, 1), NONE);
        due("SITTINGS", state.make().count(7), 40);
        due("KNOWN", state.make().count(6), 20);
        due("bytes", state.make().count(3), 160);
        due("MANNERS", state.make().count(2), 4);
    }

    /** Nor does asking change anything. */
    private static void asking() {
        sentence(0, "Nothing is promised beyond the answers and state changes described above");
        for (int wish = 0; wish < 3; wish++) {
            int one = wish;
            unchanged("best(" + one + ", 0)", x -> x.best(one, 0));
            unchanged("round(0, 7, " + one + ")", x -> x.round(0, 7, one));
        }
        for (int what = 0; what < 2; what++) {
            int one = what;
            unchanged("changes(" + one + ")", x -> x.changes(one));
            unchanged("tally(" + one + ")", x -> x.tally(one));
            unchanged("bribe(" + one + ")", x -> x.bribe(one));
            unchanged("yawns(0, " + one + ")", x -> x.yawns(0, one));
            unchanged("fault(" + one + ")", x -> x.fault(one));
            unchanged("sat(0, " + one + ")", x -> x.sat(0, one));
            unchanged("fits(" + (one - 1) + ")", x -> x.fits(one - 1));
            unchanged("sure", x -> x.sure(one == 0));
        }
        unchanged("odds(1)", x -> x.odds(1));
        unchanged("passed()", x -> x.passed());
        unchanged("turner()", x -> x.turner());
        unchanged("yawn(0, 1)", x -> x.yawn(0, 1));
        unchanged("ill()", x -> x.ill());
        unchanged("seat(0)", x -> x.seat(0));
        unchanged("member(0, 8)", x -> x.member(0, 8));
        unchanged("feed of nothing", x -> x.feed(0, 0, 0, 0, 0));
        unchanged("end of all", x -> x.end(x.count(3)) ? 1 : 0);
        unchanged("sit as it is", x -> x.sit(x.count(4)) ? 1 : 0);
        unchanged("manners as they hold", x -> x.manners(x.count(5)) ? 1 : 0);
        unchanged("there and back", x -> x.change(0, 2) && x.change(2, 0) ? 1 : 0);
    }
}
