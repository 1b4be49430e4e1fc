import java.math.BigInteger;
import java.util.ArrayDeque;
import java.util.ArrayList;
import java.util.Arrays;
import java.util.Collections;
import java.util.HashMap;
import java.util.LinkedHashSet;
import java.util.List;
import java.util.Map;
import java.util.NoSuchElementException;
import java.util.Set;

/** The document once more, in another way: everything is gone through in full, nothing is kept, nothing is left out. */
final class HouseModel {
    private static final int NONE = -1;
    private static final int HIDDEN = -100000000;
    private static final String ITEM_LETTERS = "vdeknyb";
    private static final int[] ITEM_MOST = {1, 20, 99, 3, 7, 20, 99};
    private static final int[] ITEM_USUAL = {1, 1, 0, 0, 7, 3, 10};

    private record Token(int at, String text) {
        boolean isNumber() {
            return Character.isDigit(text.charAt(0));
        }
    }

    private record Sat(int yes, boolean passed, long ahead) {
    }

    private record Picture(List<Integer> seats, List<int[]> members, List<Sat> sittings, long draws) {
    }

    private record Told(int seat, boolean yes) {
    }

    private String tape = "";
    private boolean ring;
    private List<int[]> members = new ArrayList<>();
    private List<Integer> seats = new ArrayList<>();
    private final List<List<Token>> allManners = new ArrayList<>();
    private int holding = NONE;
    private final List<Told> known = new ArrayList<>();
    private List<Sat> sittings = new ArrayList<>();
    private long draws;
    private Picture picture;

    int feed(int a, int b, int c, int d, int e) {
        StringBuilder more = new StringBuilder();
        for (int number : new int[] {a, b, c, d, e}) {
            for (byte one : BigInteger.valueOf(number & 0xffffffffL | 1L << 40).toByteArray()) {
                more.append((char) (one & 255));
            }
            more.delete(more.length() - 6, more.length() - 4);
        }
        String added = more.toString().replace("\0", "");
        if (tape.length() + added.length() > 160) {
            return NONE;
        }
        tape += added;
        return tape.length();
    }

    boolean end(int n) {
        if (n < 0 || n > tape.length()) {
            return false;
        }
        tape = tape.substring(0, n);
        return true;
    }

    int fault(int sort) {
        return sort == 0 ? houseFault(null) : sort == 1 ? mannersFault() : -2;
    }

    private static List<Token> tokens(String text) {
        List<Token> all = new ArrayList<>();
        for (int i = 0; i < text.length();) {
            int to = i;
            while (to < text.length() && text.charAt(to) >= '0' && text.charAt(to) <= '9') {
                to++;
            }
            to = Math.max(to, i + 1);
            if (text.charAt(i) != ' ') {
                all.add(new Token(i, text.substring(i, to)));
            }
            i = to;
        }
        return all;
    }

    /** A machine of four states over tokens; what it reads goes to the list, if there is one. */
    private int houseFault(List<int[]> into) {
        String state = "clause";
        int told = 0;
        int rounds = 0;
        int item = 0;
        String had = "";
        for (Token t : tokens(tape)) {
            if (state.equals("clause") && t.text.equals("r") && rounds == 0) {
                rounds++;
                state = "closed";
            } else if (state.equals("clause") && t.text.equals("m") && told < 7) {
                told++;
                had = "";
                state = "items";
                if (into != null) {
                    into.add(ITEM_USUAL.clone());
                }
            } else if (state.equals("value") && t.isNumber()) {
                if (t.text.length() > 2) {
                    return t.at + 2;
                }
                if (Integer.parseInt(t.text) > ITEM_MOST[item]) {
                    return t.at + t.text.length() - 1;
                }
                if (into != null) {
                    into.get(told - 1)[item] = Integer.parseInt(t.text);
                }
                state = "items";
            } else if ((state.equals("items") || state.equals("closed")) && t.text.equals(";")) {
                state = "clause";
            } else if (state.equals("items") && ITEM_LETTERS.contains(t.text) && !had.contains(t.text)) {
                had += t.text;
                item = ITEM_LETTERS.indexOf(t.text);
                state = "value";
            } else {
                return t.at;
            }
        }
        boolean whole = (state.equals("items") || state.equals("closed")) && told >= 2;
        return whole ? NONE : tape.length();
    }

    /** Follows all ways at once in which the grammar can go on: rows of symbols that are still awaited. */
    private int mannersFault() {
        Set<List<String>> ways = new LinkedHashSet<>();
        ways.add(List.of("y", ":", "clause", "rest"));
        for (Token t : tokens(tape)) {
            Set<List<String>> next = new LinkedHashSet<>();
            for (List<String> way : opened(ways)) {
                if (!way.isEmpty() && (way.get(0).equals("number") ? t.isNumber() : way.get(0).equals(t.text))) {
                    next.add(way.subList(1, way.size()));
                }
            }
            if (next.isEmpty()) {
                return t.at;
            }
            if (t.isNumber() && t.text.length() > 4) {
                return t.at + 4;
            }
            ways = next;
        }
        return opened(ways).contains(List.<String>of()) ? NONE : tape.length();
    }

    private static Set<List<String>> opened(Set<List<String>> ways) {
        Set<List<String>> done = new LinkedHashSet<>();
        ArrayDeque<List<String>> open = new ArrayDeque<>(ways);
        while (!open.isEmpty()) {
            List<String> way = open.poll();
            List<List<String>> choices = way.isEmpty() ? null : choices(way.get(0));
            if (choices == null) {
                done.add(way);
                continue;
            }
            for (List<String> choice : choices) {
                List<String> longer = new ArrayList<>(choice);
                longer.addAll(way.subList(1, way.size()));
                open.add(longer);
            }
        }
        return done;
    }

    private static List<List<String>> choices(String symbol) {
        if (symbol.equals("rest")) {
            return List.of(List.of(), List.of(";", "y", ":", "clause", "rest"));
        }
        if (symbol.equals("clause")) {
            return List.of(List.of("sum0"), List.of("cond0", "?", "sum0"));
        }
        if (symbol.equals("relation")) {
            return List.of(List.of("="), List.of("<"), List.of(">"));
        }
        if (symbol.length() < 2 || !Character.isDigit(symbol.charAt(symbol.length() - 1))) {
            return null;
        }
        int depth = symbol.charAt(symbol.length() - 1) - '0';
        List<List<String>> all = new ArrayList<>();
        String here = "" + depth;
        String deeper = "" + (depth + 1);
        switch (symbol.substring(0, symbol.length() - 1)) {
            case "cond" -> all.add(List.of("truth" + here, "conds" + here));
            case "conds" -> {
                all.add(List.of());
                all.add(List.of("|", "truth" + here, "conds" + here));
            }
            case "truth" -> all.add(List.of("unit" + here, "truths" + here));
            case "truths" -> {
                all.add(List.of());
                all.add(List.of("&", "unit" + here, "truths" + here));
            }
            case "unit" -> {
                all.add(List.of("sum" + here, "relation", "sum" + here));
                if (depth < 6) {
                    all.add(List.of("!", "unit" + deeper));
                    all.add(List.of("(", "cond" + deeper, ")"));
                }
            }
            case "sum" -> all.add(List.of("term" + here, "sums" + here));
            case "sums" -> {
                all.add(List.of());
                all.add(List.of("+", "term" + here, "sums" + here));
                all.add(List.of("-", "term" + here, "sums" + here));
            }
            case "term" -> all.add(List.of("atom" + here, "terms" + here));
            case "terms" -> {
                all.add(List.of());
                all.add(List.of("*", "atom" + here, "terms" + here));
                all.add(List.of("/", "atom" + here, "terms" + here));
            }
            default -> {
                all.add(List.of("number"));
                for (String letter : "v w d e n s".split(" ")) {
                    all.add(List.of(letter));
                }
                if (depth < 6) {
                    all.add(List.of("[", "sum" + deeper, "]"));
                }
            }
        }
        return all;
    }

    int text(int sort) {
        if (sort != 0 && sort != 1 || fault(sort) != NONE || sort == 1 && allManners.size() == 4) {
            return NONE;
        }
        if (sort == 1) {
            allManners.add(tokens(tape));
            tape = "";
            return allManners.size() - 1;
        }
        members = new ArrayList<>();
        houseFault(members);
        for (int[] one : members) {
            one[4] = one[4] < members.size() ? one[4] : 7;
        }
        ring = tape.contains("r");
        seats = new ArrayList<>();
        for (int s = 0; s < members.size(); s++) {
            seats.add(s);
        }
        known.clear();
        sittings = new ArrayList<>();
        picture = null;
        tape = "";
        return members.size();
    }

    private boolean isMember(int m) {
        return m >= 0 && m < members.size();
    }

    private boolean isDead(int m) {
        return members.get(m)[3] == 1;
    }

    private List<Integer> livingOf(List<Integer> row) {
        List<Integer> living = new ArrayList<>(row);
        living.removeIf(this::isDead);
        return living;
    }

    private int mouth(List<Integer> row, int m) {
        List<Integer> living = livingOf(row);
        int at = living.indexOf(m);
        if (at < 0 || living.size() == 1) {
            return NONE;
        }
        if (at == 0) {
            return ring ? living.get(living.size() - 1) : NONE;
        }
        return living.get(at - 1);
    }

    private boolean heard(List<Integer> row, int m) {
        int mouth = mouth(row, m);
        return mouth != NONE && members.get(mouth)[3] != 3 && members.get(mouth)[4] != m;
    }

    private int error(int mouth) {
        return members.get(mouth)[3] == 2 ? 0 : members.get(mouth)[2];
    }

    private List<Integer> heardOnes(List<Integer> row) {
        List<Integer> all = new ArrayList<>();
        for (int m = 0; m < members.size(); m++) {
            if (heard(row, m)) {
                all.add(m);
            }
        }
        return all;
    }

    int member(int member, int what) {
        if (!isMember(member) || what < 0 || what > 9) {
            throw new NoSuchElementException();
        }
        if (what == 7) {
            return seats.indexOf(member);
        }
        if (what == 8) {
            return mouth(seats, member);
        }
        return what == 9 ? heard(seats, member) ? 1 : 0 : members.get(member)[what];
    }

    int seat(int seat) {
        return isMember(seat) ? seats.get(seat) : NONE;
    }

    boolean manners(int manners) {
        if (manners < -1 || manners >= allManners.size()) {
            return false;
        }
        holding = manners;
        return true;
    }

    boolean set(int member, int what, int v) {
        if (!isMember(member) || what < 0 || what > 1 || v < 0 || v > (what == 0 ? 1 : 3)) {
            return false;
        }
        int item = what == 0 ? 0 : 3;
        boolean other = members.get(member)[item] != v;
        members.get(member)[item] = v;
        return other;
    }

    boolean change(int one, int other) {
        if (!isMember(one) || !isMember(other) || one == other) {
            return false;
        }
        Collections.swap(seats, one, other);
        return true;
    }

    boolean sit(int seating) {
        for (List<Integer> row : allRows()) {
            if (!members.isEmpty() && digits(row) == seating) {
                seats = new ArrayList<>(row);
                return true;
            }
        }
        return false;
    }

    private static int digits(List<Integer> row) {
        int number = 0;
        for (int m : row) {
            number = number * 10 + m;
        }
        return number;
    }

    private List<List<Integer>> allRows() {
        List<List<Integer>> all = new ArrayList<>();
        all.add(List.of());
        for (int s = 0; s < members.size(); s++) {
            List<List<Integer>> longer = new ArrayList<>();
            for (List<Integer> row : all) {
                for (int m = 0; m < members.size(); m++) {
                    if (!row.contains(m)) {
                        List<Integer> more = new ArrayList<>(row);
                        more.add(m);
                        longer.add(more);
                    }
                }
            }
            all = longer;
        }
        return all;
    }

    long round(int member, int steps, int what) {
        if (!isMember(member) || isDead(member) || steps < 0 || steps > 7 || what < 0 || what > 2) {
            return NONE;
        }
        List<Integer> mouths = way(seats, member, steps);
        if (mouths.size() < steps) {
            return NONE;
        }
        if (what == 0) {
            return seats.indexOf(steps == 0 ? (Integer) member : mouths.get(steps - 1));
        }
        if (what == 1) {
            return mouths.stream().mapToInt(m -> members.get(m)[1]).sum();
        }
        long right = 0;
        for (int wrong = 0; wrong < 1 << steps; wrong++) {
            long parts = 1;
            for (int j = 0; j < steps; j++) {
                int error = error(mouths.get(j));
                parts *= (wrong >> j & 1) == 1 ? error : 100 - error;
            }
            right += Integer.bitCount(wrong) % 2 == 0 ? parts : 0;
        }
        return right;
    }

    /** The mouths that a word goes through, as many as there may be steps. */
    private List<Integer> way(List<Integer> row, int member, int most) {
        List<Integer> mouths = new ArrayList<>();
        int speaker = member;
        while (mouths.size() < most && heard(row, speaker)) {
            speaker = mouth(row, speaker);
            mouths.add(speaker);
        }
        return mouths;
    }

    int tally(int what) {
        if (members.isEmpty() || what < 0 || what > 1) {
            return NONE;
        }
        List<Integer> ones = heardOnes(seats);
        return what == 0 ? ones.size() : (int) ones.stream().filter(m -> members.get(m)[0] == 1).count();
    }

    /** Parts by which each number of yes comes out: all rows of errors are gone through. */
    private long[] outcomes(int spared) {
        List<Integer> ones = heardOnes(seats);
        long[] parts = new long[ones.size() + 1];
        for (int wrong = 0; wrong < 1 << ones.size(); wrong++) {
            long product = 1;
            int yes = 0;
            for (int j = 0; j < ones.size(); j++) {
                int m = ones.get(j);
                int error = m == spared ? 0 : error(mouth(seats, m));
                boolean slips = (wrong >> j & 1) == 1;
                product *= slips ? error : 100 - error;
                yes += (members.get(m)[0] == 1) != slips ? 1 : 0;
            }
            parts[yes] += product;
        }
        return parts;
    }

    long odds(int yes) {
        if (members.isEmpty() || yes < 0) {
            return NONE;
        }
        long[] parts = outcomes(NONE);
        return yes < parts.length ? parts[yes] : 0;
    }

    private long passing(long[] parts, boolean want) {
        long sum = 0;
        for (int yes = 0; yes < parts.length; yes++) {
            sum += yes > (parts.length - 1) / 2.0 == want ? parts[yes] : 0;
        }
        return sum;
    }

    long passed() {
        return members.isEmpty() ? NONE : passing(outcomes(NONE), true);
    }

    int turner() {
        int best = NONE;
        long most = 0;
        for (int m : heardOnes(seats)) {
            boolean due = tally(1) > tally(0) / 2.0;
            long parts = passing(outcomes(m), due);
            if (best == NONE || parts > most) {
                best = m;
                most = parts;
            }
        }
        return best;
    }

    int bribe(int what) {
        if (members.isEmpty() || what < 0 || what > 1) {
            return NONE;
        }
        int who = NONE;
        int least = Integer.MAX_VALUE;
        for (int bits = 0; bits < 1 << members.size(); bits++) {
            int cost = 0;
            boolean may = true;
            for (int m = 0; m < members.size(); m++) {
                if ((bits >> m & 1) == 1) {
                    cost += members.get(m)[6];
                    may &= !isDead(m) && members.get(m)[0] == 0;
                }
            }
            int yes = 0;
            for (int m : heardOnes(seats)) {
                yes += members.get(m)[0] == 1 || (bits >> m & 1) == 1 ? 1 : 0;
            }
            if (may && yes > tally(0) / 2.0 && cost < least) {
                least = cost;
                who = bits;
            }
        }
        return who == NONE ? NONE : what == 0 ? least : who;
    }

    /** Minute by minute: who sees one beside it that yawned so long ago, the first time. */
    private int[] yawning(int from) {
        int n = members.size();
        int[] at = new int[n];
        Arrays.fill(at, NONE);
        at[from] = 0;
        for (int minute = 1; minute <= 200; minute++) {
            int[] next = at.clone();
            for (int s = 0; s < n; s++) {
                int m = seats.get(s);
                int wait = members.get(m)[5];
                if (at[m] != NONE || isDead(m) || wait == 0) {
                    continue;
                }
                for (int side : new int[] {s - 1, s + 1}) {
                    int beside = ring ? Math.floorMod(side, n) : side;
                    if (beside >= 0 && beside < n && at[seats.get(beside)] != NONE
                            && at[seats.get(beside)] + wait == minute) {
                        next[m] = minute;
                    }
                }
            }
            at = next;
        }
        return at;
    }

    int yawn(int from, int member) {
        return !isMember(from) || !isMember(member) || isDead(from) ? NONE : yawning(from)[member];
    }

    int yawns(int from, int what) {
        if (!isMember(from) || isDead(from) || what < 0 || what > 1) {
            return NONE;
        }
        int[] at = yawning(from);
        int bits = 0;
        for (int m = 0; m < at.length; m++) {
            bits += at[m] == NONE ? 1 << m : 0;
        }
        return what == 0 ? Arrays.stream(at).max().getAsInt() : bits;
    }

    private int illOf(List<Integer> row) {
        int sum = 0;
        for (int s = ring ? 0 : 1; s < row.size(); s++) {
            int left = row.get(Math.floorMod(s - 1, row.size()));
            sum += worth(left, row.get(s), s);
        }
        return sum;
    }

    private int worth(int left, int right, int seat) {
        int enemies = members.get(left)[4] == right || members.get(right)[4] == left ? 1 : 0;
        if (holding == NONE) {
            return enemies;
        }
        Map<String, Integer> letters = new HashMap<>();
        letters.put("v", members.get(left)[0]);
        letters.put("w", members.get(right)[0]);
        letters.put("d", members.get(left)[1]);
        letters.put("e", error(left));
        letters.put("n", enemies);
        letters.put("s", seat);
        for (List<Token> clause : split(allManners.get(holding), ";")) {
            List<Token> body = clause.subList(2, clause.size());
            List<List<Token>> halves = split(body, "?");
            if (halves.size() == 1 || holds(halves.get(0), letters)) {
                return (int) sum(halves.get(halves.size() - 1), letters);
            }
        }
        return 0;
    }

    private static List<List<Token>> split(List<Token> all, String sign) {
        List<List<Token>> parts = new ArrayList<>();
        int depth = 0;
        int from = 0;
        for (int i = 0; i <= all.size(); i++) {
            String text = i < all.size() ? all.get(i).text : sign;
            if (depth == 0 && text.equals(sign)) {
                parts.add(all.subList(from, i));
                from = i + 1;
            }
            depth += "([".contains(text) ? 1 : ")]".contains(text) ? -1 : 0;
        }
        return parts;
    }

    private boolean holds(List<Token> condition, Map<String, Integer> letters) {
        if (split(condition, "|").size() > 1) {
            return split(condition, "|").stream().anyMatch(part -> holds(part, letters));
        }
        if (split(condition, "&").size() > 1) {
            return split(condition, "&").stream().allMatch(part -> holds(part, letters));
        }
        String first = condition.get(0).text;
        if (first.equals("!")) {
            return !holds(condition.subList(1, condition.size()), letters);
        }
        if (first.equals("(")) {
            return holds(condition.subList(1, condition.size() - 1), letters);
        }
        for (String sign : List.of("=", "<", ">")) {
            List<List<Token>> sides = split(condition, sign);
            if (sides.size() == 2) {
                int order = Long.compare(sum(sides.get(0), letters), sum(sides.get(1), letters));
                return order == (sign.equals("=") ? 0 : sign.equals("<") ? -1 : 1);
            }
        }
        throw new IllegalStateException("no unit");
    }

    private long sum(List<Token> all, Map<String, Integer> letters) {
        int cut = lastOf(all, "+", "-");
        if (cut < 0) {
            return product(all, letters);
        }
        long left = sum(all.subList(0, cut), letters);
        long right = product(all.subList(cut + 1, all.size()), letters);
        return within(all.get(cut).text.equals("+") ? left + right : left - right);
    }

    private long product(List<Token> all, Map<String, Integer> letters) {
        int cut = lastOf(all, "*", "/");
        if (cut >= 0) {
            long left = product(all.subList(0, cut), letters);
            long right = product(all.subList(cut + 1, all.size()), letters);
            return within(all.get(cut).text.equals("*") ? left * right : right == 0 ? 0 : left / right);
        }
        if (all.get(0).text.equals("[")) {
            return sum(all.subList(1, all.size() - 1), letters);
        }
        return all.get(0).isNumber() ? Long.parseLong(all.get(0).text) : letters.get(all.get(0).text);
    }

    private static int lastOf(List<Token> all, String one, String other) {
        int depth = 0;
        for (int i = all.size() - 1; i >= 0; i--) {
            String text = all.get(i).text;
            if (depth == 0 && (text.equals(one) || text.equals(other))) {
                return i;
            }
            depth += text.equals("]") ? 1 : text.equals("[") ? -1 : 0;
        }
        return -1;
    }

    private static long within(long value) {
        return value > 1000000 ? 1000000 : value < -1000000 ? -1000000 : value;
    }

    int ill() {
        return members.isEmpty() ? HIDDEN : illOf(seats);
    }

    int best(int wish, int what) {
        if (members.isEmpty() || wish < 0 || wish > 2 || what < 0 || what > 1) {
            return HIDDEN;
        }
        List<Integer> best = null;
        int most = 0;
        for (List<Integer> row : allRows()) {
            int score = wish == 0 ? -illOf(row) : wish == 1 ? heardOnes(row).size() : roundScore(row);
            if (best == null || score > most) {
                best = row;
                most = score;
            }
        }
        return what == 0 ? digits(best) : wish == 0 ? -most : most;
    }

    private int roundScore(List<Integer> row) {
        List<Integer> mouths = way(row, 0, 7);
        return 1000 * mouths.size() - mouths.stream().mapToInt(m -> members.get(m)[1]).sum();
    }

    int changes(int what) {
        if (members.isEmpty() || what < 0 || what > 1) {
            return NONE;
        }
        Set<List<Integer>> seen = new LinkedHashSet<>();
        Set<List<Integer>> edge = new LinkedHashSet<>();
        edge.add(seats);
        for (int steps = 0; !edge.isEmpty(); steps++) {
            int least = edge.stream().filter(this::allHeard).mapToInt(HouseModel::digits).min().orElse(NONE);
            if (least != NONE) {
                return what == 0 ? steps : least;
            }
            seen.addAll(edge);
            Set<List<Integer>> next = new LinkedHashSet<>();
            for (List<Integer> row : edge) {
                for (int s = 0; s < row.size() - (ring ? 0 : 1); s++) {
                    List<Integer> moved = new ArrayList<>(row);
                    Collections.swap(moved, s, (s + 1) % row.size());
                    if (!seen.contains(moved)) {
                        next.add(moved);
                    }
                }
            }
            edge = next;
        }
        return NONE;
    }

    private boolean allHeard(List<Integer> row) {
        List<Integer> living = livingOf(row);
        return living.stream().allMatch(m -> heard(row, m) || !ring && m.equals(living.get(0)));
    }

    int know(int seat, boolean yes) {
        if (!isMember(seat) || known.size() == 20) {
            return NONE;
        }
        known.add(new Told(seat, yes));
        return known.size();
    }

    private List<Integer> fittingRows() {
        List<Integer> rows = new ArrayList<>();
        for (int votes = 0; votes < 1 << members.size(); votes++) {
            boolean fits = true;
            for (Told one : known) {
                boolean came = false;
                for (int m : heardOnes(seats)) {
                    came |= mouth(seats, m) == seats.get(one.seat) && (votes >> m & 1) == (one.yes ? 1 : 0);
                }
                fits &= came;
            }
            if (fits) {
                rows.add(votes);
            }
        }
        return rows;
    }

    int fits(int i) {
        if (members.isEmpty() || i < -1) {
            return NONE;
        }
        List<Integer> rows = fittingRows();
        return i == -1 ? rows.size() : i < rows.size() ? rows.get(i) : NONE;
    }

    int sure(boolean yes) {
        if (members.isEmpty() || fittingRows().isEmpty()) {
            return NONE;
        }
        int bits = (1 << members.size()) - 1;
        for (int row : fittingRows()) {
            bits &= yes ? row : ~row;
        }
        return bits;
    }

    boolean seed(long v) {
        draws = v;
        return true;
    }

    private int draw(int k) {
        BigInteger whole = BigInteger.ONE.shiftLeft(64);
        BigInteger x = BigInteger.valueOf(draws).multiply(new BigInteger("6364136223846793005"))
                .add(new BigInteger("1442695040888963407")).mod(whole);
        draws = x.longValue();
        return x.shiftRight(33).mod(BigInteger.valueOf(k)).intValue();
    }

    int sitting() {
        if (members.isEmpty() || sittings.size() == 40) {
            return NONE;
        }
        long ahead = draws;
        int yes = 0;
        for (int m : heardOnes(seats)) {
            int error = error(mouth(seats, m));
            yes += draw(100) < error ? 1 - members.get(m)[0] : members.get(m)[0];
        }
        sittings.add(new Sat(yes, yes > tally(0) / 2.0, ahead));
        return yes;
    }

    int sat(int sitting, int what) {
        if (sitting < 0 || sitting >= sittings.size() || what < 0 || what > 1) {
            return NONE;
        }
        return what == 0 ? sittings.get(sitting).yes : sittings.get(sitting).passed ? 1 : 0;
    }

    int undo() {
        if (sittings.isEmpty()) {
            return NONE;
        }
        draws = sittings.remove(sittings.size() - 1).ahead;
        return sittings.size();
    }

    private static List<int[]> copyOf(List<int[]> rows) {
        List<int[]> copy = new ArrayList<>();
        for (int[] row : rows) {
            copy.add(row.clone());
        }
        return copy;
    }

    int image() {
        if (members.isEmpty()) {
            return NONE;
        }
        picture = new Picture(new ArrayList<>(seats), copyOf(members), new ArrayList<>(sittings), draws);
        return sittings.size();
    }

    int back() {
        if (picture == null) {
            return NONE;
        }
        seats = new ArrayList<>(picture.seats);
        members = copyOf(picture.members);
        sittings = new ArrayList<>(picture.sittings);
        draws = picture.draws;
        return sittings.size();
    }

    int count(int what) {
        return switch (what) {
            case 0 -> members.size();
            case 1 -> ring ? 1 : 0;
            case 2 -> allManners.size();
            case 3 -> tape.length();
            case 4 -> digits(seats);
            case 5 -> holding;
            case 6 -> known.size();
            case 7 -> sittings.size();
            case 8 -> (int) sittings.stream().filter(Sat::passed).count();
            default -> HIDDEN;
        };
    }
}
