import java.util.NoSuchElementException;
import java.util.Random;

/** Long runs of calls, drawn from a fixed seed, against the model that goes through everything in full. */
public final class ModelTests {
    private static int wrong = 0;
    private static int calls = 0;

    private final Random random;
    private final MouthHouse house = new MouthHouse();
    private final HouseModel model = new HouseModel();
    private final StringBuilder story = new StringBuilder();
    private final int dearest;

    private ModelTests(long seed, int dearest) {
        random = new Random(seed);
        this.dearest = dearest;
    }

    public static void main(String[] args) {
        int runs = args.length > 0 ? Integer.parseInt(args[0]) : 150;
        long first = args.length > 1 ? Long.parseLong(args[1]) : 1;
        for (long seed = first; seed < first + runs && wrong < 10; seed++) {
            new ModelTests(seed, 3).longRun();
        }
        for (long seed = first; seed < first + runs * 20L && wrong < 10; seed++) {
            new ModelTests(seed, 0).faultRun();
        }
        System.out.println(calls + " calls, " + wrong + " answers differ");
        if (wrong != 0) {
            System.exit(1);
        }
    }

    private void same(String call, long got, long want) {
        calls++;
        story.append(call).append(" = ").append(want).append('\n');
        if (got != want) {
            wrong++;
            System.out.println(story + "answered " + got);
        }
    }

    private int below(int n) {
        return random.nextInt(n);
    }

    private String pick(String... all) {
        return all[below(all.length)];
    }

    private String blanks() {
        return below(12) == 0 ? " ".repeat(1 + below(2)) : "";
    }

    private String houseText(int most) {
        int members = 2 + below(most - 1);
        int ringAt = below(2) == 0 ? -1 : below(members + 1);
        StringBuilder text = new StringBuilder();
        boolean calm = below(3) == 0;
        for (int m = 0; m <= members; m++) {
            if (m == ringAt) {
                text.append(text.length() > 0 ? ";" : "").append(blanks()).append("r").append(blanks());
            }
            if (m < members) {
                text.append(text.length() > 0 ? ";" : "").append(blanks()).append("m").append(blanks());
                items(text, members, calm);
            }
        }
        return text.toString();
    }

    private void items(StringBuilder text, int members, boolean calm) {
        int start = below(7);
        for (int i = 0; i < 7; i++) {
            char letter = "vdeknyb".charAt((start + i) % 7);
            if (below(10) < 6) {
                continue;
            }
            int value = switch (letter) {
                case 'v' -> below(2);
                case 'd', 'y' -> below(21);
                case 'e', 'b' -> below(100);
                case 'k' -> calm ? pick("0", "0", "1", "2").charAt(0) - '0' : below(4);
                default -> calm ? pick("7", "7", "" + below(members)).charAt(0) - '0' : below(8);
            };
            text.append(letter).append(blanks());
            text.append(value < 10 && below(6) == 0 ? "0" : "").append(value).append(blanks());
        }
    }

    private String mannersText() {
        StringBuilder text = new StringBuilder();
        int clauses = 1 + below(4);
        for (int i = 0; i < clauses; i++) {
            text.append(i > 0 ? ";" : "").append(blanks()).append("y").append(blanks()).append(":");
            if (below(3) > 0 && i < clauses - 1 || below(4) == 0) {
                text.append(condition(3)).append("?");
            }
            text.append(sum(3));
        }
        return text.toString();
    }

    private String condition(int size) {
        String text = unit(size);
        for (int i = below(3); i > 0; i--) {
            text += pick("&", "|") + blanks() + unit(size - 1);
        }
        return text;
    }

    private String unit(int size) {
        int sort = size > 0 ? below(5) : 4;
        if (sort == 0) {
            return "!" + blanks() + unit(size - 1);
        }
        return sort == 1 ? "(" + condition(size - 1) + ")" : sum(size - 1) + pick("=", "<", ">") + sum(size - 1);
    }

    private String sum(int size) {
        String text = atom(size);
        for (int i = below(size > 0 ? 4 : 2); i > 0; i--) {
            text += blanks() + pick("+", "-", "*", "/", "-", "*") + blanks() + atom(size - 1);
        }
        return text;
    }

    private String atom(int size) {
        int sort = below(size > 0 ? 8 : 6);
        if (sort > 5) {
            return "[" + sum(size - 1) + "]";
        }
        return sort < 4 ? pick("v", "w", "d", "e", "n", "s") : pick("0", "1", "2", "9", "10", "100", "9999", "0042");
    }

    private String spoiled(String text) {
        StringBuilder signs = new StringBuilder(text);
        for (int times = 1 + below(2); times > 0; times--) {
            int at = below(signs.length() + 1);
            String sign = pick("m", "r", ";", "v", "d", "k", "n", "y", "b", ":", "?", "!", "(", ")", "[", "]", "+", "-",
                    "*", "/", "=", "<", ">", "&", "|", "0", "1", "2", "9", "99", " ", "x", "" + (char) 200, "w", "s");
            switch (below(4)) {
                case 0 -> signs.insert(at, sign);
                case 1 -> signs.replace(at, Math.min(signs.length(), at + 1), sign);
                case 2 -> signs.delete(at, Math.min(signs.length(), at + 1));
                default -> signs.setLength(at);
            }
        }
        return signs.toString();
    }

    private void feedText(String text) {
        int[] five = new int[5];
        int filled = 0;
        for (int i = 0; i < text.length(); i++) {
            if (below(40) == 0) {
                filled++;
            }
            if (filled >= 20) {
                feedFive(five);
                five = new int[5];
                filled = 0;
            }
            five[filled / 4] |= text.charAt(i) << 24 - filled % 4 * 8;
            filled++;
            if (filled == 20) {
                feedFive(five);
                five = new int[5];
                filled = 0;
            }
        }
        feedFive(five);
    }

    private void feedFive(int[] f) {
        same("feed(" + f[0] + "," + f[1] + "," + f[2] + "," + f[3] + "," + f[4] + ")",
                house.feed(f[0], f[1], f[2], f[3], f[4]), model.feed(f[0], f[1], f[2], f[3], f[4]));
    }

    private void faults(int sort) {
        same("fault(" + sort + ")", house.fault(sort), model.fault(sort));
    }

    private void end(int n) {
        same("end(" + n + ")", house.end(n) ? 1 : 0, model.end(n) ? 1 : 0);
    }

    private String deepText() {
        StringBuilder text = new StringBuilder("y:");
        int deep = 4 + below(5);
        for (int i = 0; i < deep; i++) {
            text.append(below(9) == 0 ? pick("v=1&", "s<w|", "1+", "d*") : "").append(pick("(", "[", "!", "(", "!"));
        }
        text.append(pick("v=1", "v", "1<2"));
        for (int i = 0; i < deep; i++) {
            text.append(pick(")", "]", "=1", ")"));
        }
        return text.append("?1").toString();
    }

    private void faultRun() {
        for (int i = 0; i < 12; i++) {
            end(0);
            int sort = below(2);
            String text = sort == 0 ? houseText(7 + below(2)) : below(5) == 0 ? deepText() : mannersText();
            feedText(below(4) == 0 ? text : spoiled(text));
            faults(sort);
            faults(below(3));
            if (below(4) == 0) {
                end(below(100));
                faults(sort);
            }
            same("text(" + sort + ")", house.text(sort), model.text(sort));
            if (below(3) == 0) {
                same("ill()", house.ill(), model.ill());
            }
        }
    }

    private void longRun() {
        int most = 2 + below(6);
        for (int i = 0; i < 250; i++) {
            if (i == 0 ? below(8) > 0 : below(60) == 0) {
                tellText(0, houseText(most));
            }
            if (below(25) == 0) {
                tellText(1, mannersText());
                int held = below(6) - 1;
                same("manners(" + held + ")", house.manners(held) ? 1 : 0, model.manners(held) ? 1 : 0);
            }
            call(i);
        }
    }

    private void tellText(int sort, String text) {
        end(0);
        feedText(below(10) == 0 ? spoiled(text) : text);
        same("text(" + sort + ") of " + text, house.text(sort), model.text(sort));
        askAll();
    }

    private void askAll() {
        for (int what = -1; what < 10; what++) {
            same("count(" + what + ")", house.count(what), model.count(what));
        }
        for (int m = -1; m < 8; m++) {
            same("seat(" + m + ")", house.seat(m), model.seat(m));
            memberOf(m, below(12) - 1);
        }
    }

    private void memberOf(int m, int what) {
        long got;
        long want;
        try {
            got = house.member(m, what);
        } catch (NoSuchElementException e) {
            got = Long.MIN_VALUE;
        }
        try {
            want = model.member(m, what);
        } catch (NoSuchElementException e) {
            want = Long.MIN_VALUE;
        }
        same("member(" + m + "," + what + ")", got, want);
    }

    private int seatingDigits() {
        int n = model.count(0);
        StringBuilder digits = new StringBuilder("0");
        for (int s = 0; s < n; s++) {
            digits.insert(1 + below(digits.length()), s);
        }
        int number = Integer.parseInt(digits.toString());
        return below(5) > 0 ? number : below(3) == 0 ? -number : number + below(20) - 10;
    }

    private void call(int i) {
        int m = below(9) - 1;
        int o = below(9) - 1;
        int what = below(12) == 0 ? below(12) - 4 : below(2);
        int three = below(12) == 0 ? below(12) - 4 : below(3);
        switch (below(36)) {
            case 0, 1 -> memberOf(m, below(12) - 1);
            case 2 -> same("seat(" + m + ")", house.seat(m), model.seat(m));
            case 3, 4, 5 -> {
                int v = below(6) - 1;
                same("set(" + m + "," + what + "," + v + ")", house.set(m, what, v) ? 1 : 0, model.set(m, what, v) ? 1 : 0);
            }
            case 6, 7 -> same("change(" + m + "," + o + ")", house.change(m, o) ? 1 : 0, model.change(m, o) ? 1 : 0);
            case 8 -> {
                int digits = seatingDigits();
                same("sit(" + digits + ")", house.sit(digits) ? 1 : 0, model.sit(digits) ? 1 : 0);
            }
            case 9, 10, 11 -> {
                int steps = below(10) - 1;
                same("round(" + m + "," + steps + "," + three + ")", house.round(m, steps, three),
                        model.round(m, steps, three));
            }
            case 12 -> same("tally(" + what + ")", house.tally(what), model.tally(what));
            case 13 -> same("odds(" + m + ")", house.odds(m), model.odds(m));
            case 14 -> same("passed()", house.passed(), model.passed());
            case 15 -> same("turner()", house.turner(), model.turner());
            case 16, 17 -> same("bribe(" + what + ")", house.bribe(what), model.bribe(what));
            case 18 -> same("yawn(" + m + "," + o + ")", house.yawn(m, o), model.yawn(m, o));
            case 19 -> same("yawns(" + m + "," + what + ")", house.yawns(m, what), model.yawns(m, what));
            case 20 -> same("ill()", house.ill(), model.ill());
            case 21, 22 -> {
                if (model.count(0) < 7 || below(10) < dearest) {
                    same("best(" + three + "," + what + ")", house.best(three, what), model.best(three, what));
                }
            }
            case 23 -> {
                if (model.count(0) < 7 || below(10) < dearest) {
                    same("changes(" + what + ")", house.changes(what), model.changes(what));
                }
            }
            case 24 -> same("know(" + m + ")", house.know(m, o > 3), model.know(m, o > 3));
            case 25 -> {
                int row = below(30) - 2;
                same("fits(" + row + ")", house.fits(row), model.fits(row));
            }
            case 26 -> same("fits(-1)", house.fits(-1), model.fits(-1));
            case 27 -> same("sure(" + (m > 3) + ")", house.sure(m > 3), model.sure(m > 3));
            case 28 -> {
                long seed = random.nextLong();
                same("seed(" + seed + ")", house.seed(seed) ? 1 : 0, model.seed(seed) ? 1 : 0);
            }
            case 29, 30, 31 -> same("sitting()", house.sitting(), model.sitting());
            case 32 -> same("sat(" + m + "," + what + ")", house.sat(m, what), model.sat(m, what));
            case 33 -> same("undo()", house.undo(), model.undo());
            case 34 -> {
                if (below(2) == 0) {
                    same("image()", house.image(), model.image());
                } else {
                    same("back()", house.back(), model.back());
                }
            }
            default -> {
                int c = below(11) - 1;
                same("count(" + c + ")", house.count(c), model.count(c));
                same("best(" + three + "," + what + ")", model.count(0) < 6 ? house.best(three, what) : 0,
                        model.count(0) < 6 ? model.best(three, what) : 0);
            }
        }
    }
}
