import java.util.Arrays;
import java.util.NoSuchElementException;

/** A house in which members speak through the mouth to their left; ../shared/DOC.md tells its promises. */
public final class MouthHouse {
    public static final int NONE = -1;
    public static final int HIDDEN = -100000000;

    private static final int MOST_MEMBERS = 7;
    private static final int MOST_MANNERS = 4;

    // Item numbers are those by which member(..) asks.
    private static final int VOTE = 0;
    private static final int DELAY = 1;
    private static final int ERROR = 2;
    private static final int KIND = 3;
    private static final int ENEMY = 4;
    private static final int YAWN = 5;
    private static final int COST = 6;
    private static final int ITEMS = 7;

    private static final int DEAD = 1;
    private static final int DUMMY = 2;
    private static final int DEAF = 3;

    private final Tape tape;
    private final HouseReader houseReader;
    private final MannersReader mannersReader;
    private final Manners[] mannersTold;
    private int mannersCount;
    private int holding;

    private final Members members;
    private final Seating seating;
    private final Talk talk;
    private final Votes votes;
    private final Best bestOnes;
    private final Changes changeSearch;
    private final Sittings sittings;

    private boolean hasImage;
    private final Members imageMembers;
    private final Seating imageSeating;
    private final Sittings imageSittings;

    public MouthHouse() {
        tape = new Tape();
        houseReader = new HouseReader(tape);
        mannersReader = new MannersReader(tape);
        mannersTold = new Manners[MOST_MANNERS];
        mannersCount = 0;
        holding = NONE;
        members = new Members();
        seating = new Seating();
        talk = new Talk(members, seating);
        votes = new Votes(talk);
        bestOnes = new Best(members);
        changeSearch = new Changes(members, seating);
        sittings = new Sittings();
        hasImage = false;
        imageMembers = new Members();
        imageSeating = new Seating();
        imageSittings = new Sittings();
    }

    public int feed(int a, int b, int c, int d, int e) {
        int more = Tape.signsIn(a) + Tape.signsIn(b) + Tape.signsIn(c) + Tape.signsIn(d) + Tape.signsIn(e);
        if (!tape.hasRoom(more)) {
            return NONE;
        }
        tape.append(a);
        tape.append(b);
        tape.append(c);
        tape.append(d);
        tape.append(e);
        return tape.length;
    }

    public boolean end(int n) {
        if (n < 0 || n > tape.length) {
            return false;
        }
        tape.length = n;
        return true;
    }

    public int fault(int sort) {
        if (sort == 0) {
            return houseReader.read();
        }
        return sort == 1 ? mannersReader.read() : -2;
    }

    public int text(int sort) {
        if (sort == 0) {
            return houseReader.read() == NONE ? moveIn() : NONE;
        }
        if (sort != 1 || mannersCount >= MOST_MANNERS || mannersReader.read() != NONE) {
            return NONE;
        }
        mannersTold[mannersCount] = mannersReader.written();
        mannersCount++;
        tape.length = 0;
        return mannersCount - 1;
    }

    private int moveIn() {
        members.copyFrom(houseReader.draft);
        seating.startWith(members.size);
        votes.forgetKnown();
        sittings.held = 0;
        hasImage = false;
        tape.length = 0;
        forgetAnswers();
        return members.size;
    }

    /** What is kept of searched answers holds only while nobody moves, votes otherwise or dies. */
    private void forgetAnswers() {
        bestOnes.forget();
        changeSearch.forget();
    }

    public int member(int member, int what) throws NoSuchElementException {
        if (!members.has(member) || what < 0 || what > 9) {
            throw new NoSuchElementException();
        }
        switch (what) {
            case 7:
                return seating.seatOf(member);
            case 8:
                return talk.mouthOf(member);
            case 9:
                return talk.isHeard(member) ? 1 : 0;
            default:
                return members.fact(what, member);
        }
    }

    public int seat(int seat) {
        return seating.memberOn(seat);
    }

    public boolean manners(int manners) {
        if (manners < NONE || manners >= mannersCount) {
            return false;
        }
        holding = manners;
        bestOnes.hold(manners == NONE ? null : mannersTold[manners]);
        return true;
    }

    public boolean set(int member, int what, int v) {
        if (what != 0 && what != 1) {
            return false;
        }
        int item = what == 0 ? VOTE : KIND;
        if (!members.has(member) || v < 0 || v > Members.mostOf(item) || members.fact(item, member) == v) {
            return false;
        }
        members.tell(item, member, v);
        forgetAnswers();
        return true;
    }

    public boolean change(int one, int other) {
        if (!seating.has(one) || !seating.has(other) || one == other) {
            return false;
        }
        seating.exchange(one, other);
        forgetAnswers();
        return true;
    }

    public boolean sit(int seating) {
        if (!this.seating.isSeating(seating)) {
            return false;
        }
        this.seating.take(seating);
        forgetAnswers();
        return true;
    }

    public long round(int member, int steps, int what) {
        if (!members.lives(member) || steps < 0 || steps > Talk.MOST_STEPS || what < 0 || what > 2) {
            return NONE;
        }
        return talk.wordOf(member, steps, what);
    }

    public int tally(int what) {
        if (members.size == 0 || what < 0 || what > 1) {
            return NONE;
        }
        return what == 0 ? votes.heard() : votes.plainYes();
    }

    public long odds(int yes) {
        return members.size == 0 || yes < 0 ? NONE : votes.partsOf(yes);
    }

    public long passed() {
        return members.size == 0 ? NONE : votes.passingParts(NONE);
    }

    public int turner() {
        return members.size == 0 ? NONE : votes.whoTurns();
    }

    public int bribe(int what) {
        if (members.size == 0 || what < 0 || what > 1) {
            return NONE;
        }
        int who = votes.cheapest();
        return who == NONE || what == 1 ? who : votes.costOf(who);
    }

    public int yawn(int from, int member) {
        if (!members.lives(from) || !members.has(member)) {
            return NONE;
        }
        talk.spreadYawn(from);
        return talk.yawnedAt(member);
    }

    public int yawns(int from, int what) {
        if (!members.lives(from) || what < 0 || what > 1) {
            return NONE;
        }
        talk.spreadYawn(from);
        return what == 0 ? talk.lastYawn() : talk.sleepy();
    }

    public int ill() {
        return members.size == 0 ? HIDDEN : bestOnes.illOf(seating);
    }

    public int best(int wish, int what) {
        if (members.size == 0 || wish < 0 || wish > 2 || what < 0 || what > 1) {
            return HIDDEN;
        }
        bestOnes.search(wish);
        return what == 0 ? bestOnes.seatingFor(wish) : bestOnes.muchFor(wish);
    }

    public int changes(int what) {
        if (members.size == 0 || what < 0 || what > 1) {
            return NONE;
        }
        changeSearch.search();
        return what == 0 ? changeSearch.fewest : changeSearch.target;
    }

    public int know(int seat, boolean yes) {
        return seating.has(seat) ? votes.learn(seat, yes) : NONE;
    }

    public int fits(int i) {
        if (members.size == 0 || i < NONE) {
            return NONE;
        }
        return i == NONE ? votes.fitting() : votes.fittingRow(i);
    }

    public int sure(boolean yes) {
        return members.size == 0 ? NONE : votes.certain(yes);
    }

    public boolean seed(long v) {
        sittings.state = v;
        return true;
    }

    public int sitting() {
        if (members.size == 0 || sittings.isFull()) {
            return NONE;
        }
        long before = sittings.state;
        int yes = 0;
        for (int m = 0; m < members.size; m++) {
            if (talk.isHeard(m)) {
                boolean wrong = sittings.draw(100) < talk.slipOf(talk.mouthOf(m));
                boolean saysYes = members.fact(VOTE, m) == 1;
                yes += saysYes != wrong ? 1 : 0;
            }
        }
        sittings.putBy(yes, Votes.passes(yes, votes.heard()), before);
        return yes;
    }

    public int sat(int sitting, int what) {
        if (sitting < 0 || sitting >= sittings.held || what < 0 || what > 1) {
            return NONE;
        }
        return what == 0 ? sittings.yesOf(sitting) : sittings.passedOf(sitting);
    }

    public int undo() {
        return sittings.held == 0 ? NONE : sittings.takeBack();
    }

    public int image() {
        if (members.size == 0) {
            return NONE;
        }
        imageMembers.copyFrom(members);
        imageSeating.copyFrom(seating);
        imageSittings.copyFrom(sittings);
        hasImage = true;
        return sittings.held;
    }

    public int back() {
        if (!hasImage) {
            return NONE;
        }
        members.copyFrom(imageMembers);
        seating.copyFrom(imageSeating);
        sittings.copyFrom(imageSittings);
        forgetAnswers();
        return sittings.held;
    }

    public int count(int what) {
        switch (what) {
            case 0:
                return members.size;
            case 1:
                return members.ring ? 1 : 0;
            case 2:
                return mannersCount;
            case 3:
                return tape.length;
            case 4:
                return seating.digits();
            case 5:
                return holding;
            case 6:
                return votes.known;
            case 7:
                return sittings.held;
            case 8:
                return sittings.passedOnes();
            default:
                return HIDDEN;
        }
    }

    /** The bytes told so far, and where a reader stands among them: if it refuses, it stands at the FAULT. */
    private static final class Tape {
        private static final int MOST_BYTES = 160;
        private static final int END = -1;
        private static final int BLANK = 32;

        private final int[] bytes;
        private int length;
        private int at;

        private Tape() {
            bytes = new int[MOST_BYTES];
            length = 0;
            at = 0;
        }

        private static int signsIn(int number) {
            int signs = 0;
            for (int shift = 24; shift >= 0; shift -= 8) {
                if ((number >>> shift & 255) != 0) {
                    signs++;
                }
            }
            return signs;
        }

        private boolean hasRoom(int more) {
            return length + more <= MOST_BYTES;
        }

        private void append(int number) {
            for (int shift = 24; shift >= 0; shift -= 8) {
                int sign = number >>> shift & 255;
                if (sign != 0 && length < MOST_BYTES) {
                    bytes[length] = sign;
                    length++;
                }
            }
        }

        private void rewind() {
            at = 0;
        }

        private void step() {
            at++;
        }

        private void stepBack() {
            at--;
        }

        private int here() {
            return at >= 0 && at < length && at < MOST_BYTES ? bytes[at] : END;
        }

        /** The next sign behind blanks; it is not passed. */
        private int next() {
            while (at >= 0 && at < length && at < MOST_BYTES) {
                if (bytes[at] != BLANK) {
                    return bytes[at];
                }
                at++;
            }
            return END;
        }

        private boolean pass(int sign) {
            if (next() != sign) {
                return false;
            }
            at++;
            return true;
        }

        private static boolean isDigit(int sign) {
            return sign >= '0' && sign <= '9';
        }

        /** NONE: no number, or one digit too many. */
        private int number(int mostDigits) {
            if (!isDigit(next())) {
                return NONE;
            }
            int value = 0;
            for (int digits = 0; at < length && isDigit(here()); digits++) {
                if (digits >= mostDigits) {
                    return NONE;
                }
                value = value * 10 + here() - '0';
                at++;
            }
            return value;
        }
    }

    /** Reads the TAPE as a HOUSE, into a draft, since what is refused must change nothing. */
    private static final class HouseReader {
        private static final int DIGITS = 2;
        private static final int LEAST_MEMBERS = 2;
        private static final int[] LETTERS = {'v', 'd', 'e', 'k', 'n', 'y', 'b'};

        private final Tape tape;
        private final Members draft;

        private HouseReader(Tape tape) {
            this.tape = tape;
            draft = new Members();
        }

        /** The FAULT, or NONE. */
        private int read() {
            draft.clear();
            tape.rewind();
            boolean isRead = readClause();
            for (int clauses = 1; isRead && clauses < Tape.MOST_BYTES && tape.pass(';'); clauses++) {
                isRead = readClause();
            }
            if (!isRead || tape.next() != Tape.END || draft.size < LEAST_MEMBERS) {
                return tape.at;
            }
            draft.dropStrangers();
            return NONE;
        }

        private boolean readClause() {
            int sign = tape.next();
            if (sign == 'r' && !draft.ring) {
                draft.ring = true;
                tape.step();
                return true;
            }
            if (sign != 'm' || draft.size >= MOST_MEMBERS) {
                return false;
            }
            tape.step();
            draft.addUsual();
            return readItems();
        }

        private boolean readItems() {
            int seen = 0;
            for (int items = 0; items <= ITEMS; items++) {
                int item = itemOf(tape.next());
                if (item == NONE) {
                    return true;
                }
                if ((seen >> item & 1) != 0) {
                    return false;
                }
                seen |= 1 << item;
                tape.step();
                if (!readValue(item)) {
                    return false;
                }
            }
            return true;
        }

        private static int itemOf(int sign) {
            for (int item = 0; item < LETTERS.length; item++) {
                if (LETTERS[item] == sign) {
                    return item;
                }
            }
            return NONE;
        }

        private boolean readValue(int item) {
            int value = tape.number(DIGITS);
            if (value == NONE) {
                return false;
            }
            if (value > Members.mostOf(item)) {
                // the document puts this FAULT at the last digit
                tape.stepBack();
                return false;
            }
            draft.tell(item, draft.size - 1, value);
            return true;
        }
    }

    /** Reads the TAPE as MANNERS and writes them as a row of signs, each behind what it joins. */
    private static final class MannersReader {
        private static final int DIGITS = 4;
        private static final int DEEPEST = 6;

        private final Tape tape;
        private final int[] signs;
        private int size;

        private MannersReader(Tape tape) {
            this.tape = tape;
            signs = new int[Tape.MOST_BYTES];
            size = 0;
        }

        /** The FAULT, or NONE. */
        private int read() {
            size = 0;
            tape.rewind();
            boolean isRead = readClause();
            for (int clauses = 1; isRead && clauses < Tape.MOST_BYTES && tape.pass(';'); clauses++) {
                isRead = readClause();
            }
            return isRead && tape.next() == Tape.END ? NONE : tape.at;
        }

        private Manners written() {
            return new Manners(signs, size);
        }

        private boolean readClause() {
            if (!tape.pass('y') || !tape.pass(':')) {
                return false;
            }
            int sign = tape.next();
            boolean begun = sign != '!' && sign != '(';
            if (begun) {
                if (!readSum(0)) {
                    return false;
                }
                if (!isRelation(tape.next())) {
                    write(-';');
                    return true;
                }
            }
            return readCondition(0, begun) && readConsequence();
        }

        private boolean readConsequence() {
            if (!tape.pass('?')) {
                return false;
            }
            write(-'?');
            int jump = size;
            write(0);
            if (!readSum(0)) {
                return false;
            }
            write(-';');
            if (jump < signs.length) {
                signs[jump] = size;
            }
            return true;
        }

        /** A clause may begin with a SUM that turns out to be a CONDITION's: then it is begun. */
        private boolean readCondition(int depth, boolean begun) {
            if (!readTruth(depth, begun)) {
                return false;
            }
            for (int more = 0; more < Tape.MOST_BYTES && tape.pass('|'); more++) {
                if (!readTruth(depth, false)) {
                    return false;
                }
                write(-'|');
            }
            return true;
        }

        private boolean readTruth(int depth, boolean begun) {
            if (!readUnit(depth, begun)) {
                return false;
            }
            for (int more = 0; more < Tape.MOST_BYTES && tape.pass('&'); more++) {
                if (!readUnit(depth, false)) {
                    return false;
                }
                write(-'&');
            }
            return true;
        }

        private boolean readUnit(int depth, boolean begun) {
            if (begun) {
                return readRelation(depth);
            }
            int sign = tape.next();
            if (sign != '!' && sign != '(') {
                return readSum(depth) && readRelation(depth);
            }
            if (depth >= DEEPEST) {
                return false;
            }
            tape.step();
            if (sign == '(') {
                return readCondition(depth + 1, false) && tape.pass(')');
            }
            if (!readUnit(depth + 1, false)) {
                return false;
            }
            write(-'!');
            return true;
        }

        private static boolean isRelation(int sign) {
            return sign == '=' || sign == '<' || sign == '>';
        }

        private boolean readRelation(int depth) {
            int sign = tape.next();
            if (!isRelation(sign)) {
                return false;
            }
            tape.step();
            if (!readSum(depth)) {
                return false;
            }
            write(-sign);
            return true;
        }

        private boolean readSum(int depth) {
            if (!readTerm(depth)) {
                return false;
            }
            for (int more = 0; more < Tape.MOST_BYTES; more++) {
                int sign = tape.next();
                if (sign != '+' && sign != '-') {
                    return true;
                }
                tape.step();
                if (!readTerm(depth)) {
                    return false;
                }
                write(-sign);
            }
            return true;
        }

        private boolean readTerm(int depth) {
            if (!readAtom(depth)) {
                return false;
            }
            for (int more = 0; more < Tape.MOST_BYTES; more++) {
                int sign = tape.next();
                if (sign != '*' && sign != '/') {
                    return true;
                }
                tape.step();
                if (!readAtom(depth)) {
                    return false;
                }
                write(-sign);
            }
            return true;
        }

        private boolean readAtom(int depth) {
            int sign = tape.next();
            if (sign == '[') {
                if (depth >= DEEPEST) {
                    return false;
                }
                tape.step();
                return readSum(depth + 1) && tape.pass(']');
            }
            if (Manners.letterOf(sign) != NONE) {
                tape.step();
                write(-sign);
                return true;
            }
            int value = tape.number(DIGITS);
            if (value == NONE) {
                return false;
            }
            write(value);
            return true;
        }

        /** No text writes more signs than it has bytes: y : ? make room for a jump and an end. */
        private void write(int sign) {
            if (size < signs.length) {
                signs[size] = sign;
                size++;
            }
        }
    }

    /** MANNERS as a row: numbers stand for themselves, signs below 0, behind -'?' where to go on if it is untrue. */
    private static final class Manners {
        private static final int BOUND = 1000000;
        private static final int[] LETTERS = {'v', 'w', 'd', 'e', 'n', 's'};

        private final int[] signs;
        private final int[] stack;
        private int top;

        private Manners(int[] written, int size) {
            int length = Math.max(0, Math.min(size, written.length));
            signs = new int[length];
            System.arraycopy(written, 0, signs, 0, length);
            stack = new int[length + 1];
            top = 0;
        }

        private static int letterOf(int sign) {
            for (int letter = 0; letter < LETTERS.length; letter++) {
                if (LETTERS[letter] == sign) {
                    return letter;
                }
            }
            return NONE;
        }

        private int worthBy(int[] values) {
            top = 0;
            int at = 0;
            while (at < signs.length) {
                int sign = signs[at];
                at++;
                if (sign >= 0) {
                    push(sign);
                } else if (sign == -';') {
                    return pop();
                } else if (sign == -'?') {
                    // jumps only ever go on, so that the end is sure
                    at = pop() != 0 || at >= signs.length ? at + 1 : Math.max(at + 1, signs[at]);
                } else {
                    work(-sign, values);
                }
            }
            return 0;
        }

        private void work(int sign, int[] values) {
            int letter = letterOf(sign);
            if (letter != NONE) {
                push(letter < values.length ? values[letter] : 0);
            } else if (sign == '!') {
                push(pop() == 0 ? 1 : 0);
            } else {
                int right = pop();
                int left = pop();
                push(isTruthSign(sign) ? truth(sign, left, right) : bounded(sign, left, right));
            }
        }

        private void push(int value) {
            if (top >= 0 && top < stack.length) {
                stack[top] = value;
                top++;
            }
        }

        private int pop() {
            if (top <= 0 || top > stack.length) {
                return 0;
            }
            top--;
            return stack[top];
        }

        private static boolean isTruthSign(int sign) {
            return sign == '=' || sign == '<' || sign == '>' || sign == '&' || sign == '|';
        }

        private static int truth(int sign, int left, int right) {
            switch (sign) {
                case '=':
                    return left == right ? 1 : 0;
                case '<':
                    return left < right ? 1 : 0;
                case '>':
                    return left > right ? 1 : 0;
                case '&':
                    return left & right;
                default:
                    return left | right;
            }
        }

        private static int bounded(int sign, long left, long right) {
            long value = 0;
            switch (sign) {
                case '+':
                    value = left + right;
                    break;
                case '-':
                    value = left - right;
                    break;
                case '*':
                    value = left * right;
                    break;
                default:
                    value = right == 0 ? 0 : left / right;
            }
            if (value > BOUND) {
                return BOUND;
            }
            return value < -BOUND ? -BOUND : (int) value;
        }
    }

    /** What is told of each MEMBER. */
    private static final class Members {
        private static final int[] MOST = {1, 20, 99, 3, 7, 20, 99};
        private static final int[] USUAL = {1, 1, 0, 0, 7, 3, 10};
        private static final int NO_ENEMY = 7;

        private int size;
        private boolean ring;
        private final int[] facts;

        private Members() {
            size = 0;
            ring = false;
            facts = new int[ITEMS * MOST_MEMBERS];
        }

        private static int mostOf(int item) {
            return item >= 0 && item < MOST.length ? MOST[item] : NONE;
        }

        private void clear() {
            size = 0;
            ring = false;
        }

        private void addUsual() {
            if (size >= MOST_MEMBERS) {
                return;
            }
            size++;
            for (int item = 0; item < USUAL.length; item++) {
                tell(item, size - 1, USUAL[item]);
            }
        }

        private void copyFrom(Members other) {
            size = other.size;
            ring = other.ring;
            System.arraycopy(other.facts, 0, facts, 0, facts.length);
        }

        private void dropStrangers() {
            for (int m = 0; m < size; m++) {
                if (fact(ENEMY, m) >= size) {
                    tell(ENEMY, m, NO_ENEMY);
                }
            }
        }

        private boolean has(int member) {
            return member >= 0 && member < size && member < MOST_MEMBERS;
        }

        private int fact(int item, int member) {
            boolean isTold = member >= 0 && member < size && member < MOST_MEMBERS;
            return isTold && item >= 0 && item < ITEMS ? facts[item * MOST_MEMBERS + member] : NONE;
        }

        private void tell(int item, int member, int value) {
            if (has(member) && item >= 0 && item < ITEMS) {
                facts[item * MOST_MEMBERS + member] = value;
            }
        }

        private boolean lives(int member) {
            boolean isTold = member >= 0 && member < size && member < MOST_MEMBERS;
            return isTold && facts[KIND * MOST_MEMBERS + member] != DEAD;
        }

        /** The bits of those not dead. */
        private int living() {
            int bits = 0;
            for (int m = 0; m < size; m++) {
                bits |= lives(m) ? 1 << m : 0;
            }
            return bits;
        }

        private boolean swallows(int mouth, int speaker) {
            return fact(KIND, mouth) == DEAF || fact(ENEMY, mouth) == speaker;
        }

        private boolean areEnemies(int one, int other) {
            return fact(ENEMY, one) == other || fact(ENEMY, other) == one;
        }
    }

    /** Who sits where. */
    private static final class Seating {
        private int size;
        private final int[] onSeat;
        private final int[] seats;

        private Seating() {
            size = 0;
            onSeat = new int[MOST_MEMBERS];
            seats = new int[MOST_MEMBERS];
        }

        private void startWith(int members) {
            size = Math.max(0, Math.min(members, MOST_MEMBERS));
            for (int s = 0; s < size; s++) {
                put(s, s);
            }
        }

        private void copyFrom(Seating other) {
            size = other.size;
            System.arraycopy(other.onSeat, 0, onSeat, 0, onSeat.length);
            System.arraycopy(other.seats, 0, seats, 0, seats.length);
        }

        /** There are as many SEATS as MEMBERS, so it serves for both. */
        private boolean has(int number) {
            return number >= 0 && number < size && number < MOST_MEMBERS;
        }

        private int memberOn(int seat) {
            return seat >= 0 && seat < size && seat < MOST_MEMBERS ? onSeat[seat] : NONE;
        }

        private int seatOf(int member) {
            return member >= 0 && member < size && member < MOST_MEMBERS ? seats[member] : NONE;
        }

        private void put(int member, int seat) {
            if (has(member) && has(seat)) {
                onSeat[seat] = member;
                seats[member] = seat;
            }
        }

        private void exchange(int one, int other) {
            int first = memberOn(one);
            int second = memberOn(other);
            put(first, other);
            put(second, one);
        }

        /** The SEAT just left, or NONE. */
        private int leftOf(int seat, boolean ring) {
            return seat > 0 || !ring ? seat - 1 : size - 1;
        }

        /** The SEAT just right, or NONE. */
        private int rightOf(int seat, boolean ring) {
            if (seat < size - 1) {
                return seat + 1;
            }
            return ring ? 0 : NONE;
        }

        private int digits() {
            int digits = 0;
            for (int s = 0; s < size && s < MOST_MEMBERS; s++) {
                digits = digits * 10 + onSeat[s];
            }
            return digits;
        }

        private boolean isSeating(int digits) {
            if (size == 0 || digits < 0) {
                return false;
            }
            int rest = digits;
            int seen = 0;
            for (int s = 0; s < size; s++) {
                seen |= 1 << rest % 10;
                rest /= 10;
            }
            return rest == 0 && seen == (1 << size) - 1;
        }

        /** Only digits that are a SEATING. */
        private void take(int digits) {
            int rest = digits;
            for (int s = size - 1; s >= 0; s--) {
                put(rest % 10, s);
                rest /= 10;
            }
        }
    }

    /** By whose mouth whose words come in one SEATING, and how yawns travel there. */
    private static final class Talk {
        private static final int MOST_STEPS = 7;

        private final Members members;
        private final Seating seating;
        private final int[] minutes;

        private Talk(Members members, Seating seating) {
            this.members = members;
            this.seating = seating;
            minutes = new int[MOST_MEMBERS];
        }

        private int mouthOf(int member) {
            if (!members.lives(member)) {
                return NONE;
            }
            int seat = seating.seatOf(member);
            for (int others = 1; others < members.size; others++) {
                seat = seating.leftOf(seat, members.ring);
                if (seat == NONE) {
                    return NONE;
                }
                int mouth = seating.memberOn(seat);
                if (members.lives(mouth)) {
                    return mouth;
                }
            }
            return NONE;
        }

        private boolean isHeard(int member) {
            int mouth = mouthOf(member);
            return mouth != NONE && !members.swallows(mouth, member);
        }

        /** The ERROR that a mouth makes. */
        private int slipOf(int mouth) {
            return members.fact(KIND, mouth) == DUMMY ? 0 : members.fact(ERROR, mouth);
        }

        /** Whose word comes out of the mouth on a SEAT, or NONE. */
        private int speakerThrough(int seat) {
            int mouth = seating.memberOn(seat);
            for (int m = 0; m < members.size; m++) {
                if (mouthOf(m) == mouth && isHeard(m)) {
                    return m;
                }
            }
            return NONE;
        }

        /** In a row the first not dead one has no mouth, and is let off. */
        private boolean isAllHeard() {
            for (int m = 0; m < members.size; m++) {
                int mouth = mouthOf(m);
                if (mouth == NONE ? members.ring && members.lives(m) : members.swallows(mouth, m)) {
                    return false;
                }
            }
            return true;
        }

        /** ROUND behind so many steps: SEAT (0), MINUTE (1), parts (2). */
        private long wordOf(int member, int steps, int what) {
            int speaker = member;
            long minute = 0;
            long right = 1;
            long whole = 1;
            for (int step = 0; step < steps; step++) {
                if (!isHeard(speaker)) {
                    return NONE;
                }
                speaker = mouthOf(speaker);
                long slip = slipOf(speaker);
                minute += members.fact(DELAY, speaker);
                right = right * (100 - slip) + (whole - right) * slip;
                whole *= 100;
            }
            if (what == 0) {
                return seating.seatOf(speaker);
            }
            return what == 1 ? minute : right;
        }

        /** As many passes as there are MEMBERS are enough, since a yawn goes by each of them once at most. */
        private void spreadYawn(int from) {
            for (int m = 0; m < minutes.length; m++) {
                minutes[m] = m == from ? 0 : NONE;
            }
            for (int pass = 0; pass < members.size; pass++) {
                for (int m = 0; m < members.size; m++) {
                    if (m != from && members.lives(m) && members.fact(YAWN, m) > 0) {
                        int seat = seating.seatOf(m);
                        catchYawn(m, seating.memberOn(seating.leftOf(seat, members.ring)));
                        catchYawn(m, seating.memberOn(seating.rightOf(seat, members.ring)));
                    }
                }
            }
        }

        private void catchYawn(int member, int beside) {
            int seen = yawnedAt(beside);
            if (seen == NONE || !members.has(member)) {
                return;
            }
            int minute = seen + members.fact(YAWN, member);
            if (minutes[member] == NONE || minute < minutes[member]) {
                minutes[member] = minute;
            }
        }

        private int yawnedAt(int member) {
            return members.has(member) ? minutes[member] : NONE;
        }

        private int lastYawn() {
            int last = 0;
            for (int m = 0; m < members.size; m++) {
                last = Math.max(last, yawnedAt(m));
            }
            return last;
        }

        private int sleepy() {
            int bits = 0;
            for (int m = 0; m < members.size; m++) {
                bits |= yawnedAt(m) == NONE ? 1 << m : 0;
            }
            return bits;
        }
    }

    /** What is heard of VOTES, what they cost, and which of them fit what is KNOWN. */
    private static final class Votes {
        private static final int MOST_KNOWN = 20;

        private final Talk talk;
        private final Members members;
        private final long[] parts;
        private int known;
        private final int[] knownSeats;
        private final boolean[] knownYes;
        private int mustYes;
        private int mustNo;

        private Votes(Talk talk) {
            this.talk = talk;
            members = talk.members;
            parts = new long[MOST_MEMBERS + 1];
            known = 0;
            knownSeats = new int[MOST_KNOWN];
            knownYes = new boolean[MOST_KNOWN];
            mustYes = 0;
            mustNo = 0;
        }

        private static boolean passes(int yes, int heard) {
            return yes * 2 > heard;
        }

        private int heardBits() {
            int bits = 0;
            for (int m = 0; m < members.size; m++) {
                bits |= talk.isHeard(m) ? 1 << m : 0;
            }
            return bits;
        }

        private int yesBits() {
            int bits = 0;
            for (int m = 0; m < members.size; m++) {
                bits |= members.fact(VOTE, m) == 1 ? 1 << m : 0;
            }
            return bits;
        }

        private int heard() {
            return Integer.bitCount(heardBits());
        }

        private int plainYes() {
            return Integer.bitCount(heardBits() & yesBits());
        }

        /** Fills in by how many parts each number of yes comes out, one MEMBER's word being spared ERROR. */
        private int spread(int spared) {
            for (int j = 0; j < parts.length; j++) {
                parts[j] = j == 0 ? 1 : 0;
            }
            int heard = 0;
            for (int m = 0; m < members.size; m++) {
                if (talk.isHeard(m)) {
                    int slip = m == spared ? 0 : talk.slipOf(talk.mouthOf(m));
                    heard++;
                    hear(members.fact(VOTE, m) == 1 ? 100 - slip : slip);
                }
            }
            return heard;
        }

        private void hear(int yesParts) {
            for (int j = parts.length - 1; j >= 0; j--) {
                long fromBelow = j > 0 ? parts[j - 1] * yesParts : 0;
                parts[j] = parts[j] * (100 - yesParts) + fromBelow;
            }
        }

        private long partsOf(int yes) {
            spread(NONE);
            return yes >= 0 && yes < parts.length ? parts[yes] : 0;
        }

        private long passingParts(int spared) {
            int heard = spread(spared);
            long passing = 0;
            for (int j = 0; j < parts.length; j++) {
                passing += passes(j, heard) ? parts[j] : 0;
            }
            return passing;
        }

        private int whoTurns() {
            int heardOnes = heardBits();
            boolean due = passes(plainYes(), heard());
            int who = NONE;
            long most = 0;
            for (int m = 0; m < members.size; m++) {
                if ((heardOnes >> m & 1) != 0) {
                    // all have the same whole, so parts that fail are compared by those that pass
                    long passing = passingParts(m);
                    long agreeing = due ? passing : -passing;
                    if (who == NONE || agreeing > most) {
                        who = m;
                        most = agreeing;
                    }
                }
            }
            return who;
        }

        /** Rising bits, so that of several the first is the least. */
        private int cheapest() {
            int heardOnes = heardBits();
            int yesOnes = yesBits();
            int open = members.living() & ~yesOnes;
            int heard = Integer.bitCount(heardOnes);
            int who = NONE;
            int least = 0;
            for (int bits = 0; bits < 1 << members.size; bits++) {
                boolean may = (bits & ~open) == 0;
                if (may && passes(Integer.bitCount(heardOnes & (yesOnes | bits)), heard)) {
                    int cost = costOf(bits);
                    if (who == NONE || cost < least) {
                        who = bits;
                        least = cost;
                    }
                }
            }
            return who;
        }

        private int costOf(int bits) {
            int cost = 0;
            for (int m = 0; m < members.size; m++) {
                cost += (bits >> m & 1) != 0 ? members.fact(COST, m) : 0;
            }
            return cost;
        }

        private void forgetKnown() {
            known = 0;
        }

        private int learn(int seat, boolean yes) {
            if (known < 0 || known >= MOST_KNOWN) {
                return NONE;
            }
            knownSeats[known] = seat;
            knownYes[known] = yes;
            known++;
            return known;
        }

        /** Weighs what is KNOWN by the SEATING as it is now; false: nothing can fit. */
        private boolean canFit() {
            mustYes = 0;
            mustNo = 0;
            for (int k = 0; k < known && k < MOST_KNOWN; k++) {
                int speaker = talk.speakerThrough(knownSeats[k]);
                if (speaker == NONE) {
                    return false;
                }
                mustYes |= knownYes[k] ? 1 << speaker : 0;
                mustNo |= knownYes[k] ? 0 : 1 << speaker;
            }
            return (mustYes & mustNo) == 0;
        }

        private boolean isFit(int row) {
            return (row & mustYes) == mustYes && (row & mustNo) == 0;
        }

        private int fitting() {
            if (!canFit()) {
                return 0;
            }
            int free = members.size - Integer.bitCount(mustYes | mustNo);
            return 1 << Math.max(0, free);
        }

        private int fittingRow(int i) {
            if (!canFit()) {
                return NONE;
            }
            int ahead = 0;
            for (int row = 0; row < 1 << members.size; row++) {
                if (isFit(row)) {
                    if (ahead == i) {
                        return row;
                    }
                    ahead++;
                }
            }
            return NONE;
        }

        private int certain(boolean yes) {
            if (!canFit()) {
                return NONE;
            }
            return yes ? mustYes : mustNo;
        }
    }

    /** BEST SEATINGS: SEATS are filled from the left, lower MEMBERS first, so that of several the first is least. */
    private static final class Best {
        private static final int WISHES = 3;
        private static final int STEP_WORTH = 1000;

        private final Members members;
        private Manners manners;
        private final int[] letters;
        private final int[] worths;
        private final int[] leastFrom;
        private final int[] order;
        private final int[] alive;
        private int allAlive;
        private int mostRound;
        private boolean found;
        private int bestScore;
        private int bestDigits;
        private final boolean[] isKept;
        private final int[] keptDigits;
        private final int[] keptScores;

        private Best(Members members) {
            this.members = members;
            manners = null;
            letters = new int[Manners.LETTERS.length];
            worths = new int[MOST_MEMBERS * MOST_MEMBERS * MOST_MEMBERS];
            leastFrom = new int[MOST_MEMBERS + 1];
            order = new int[MOST_MEMBERS];
            alive = new int[MOST_MEMBERS];
            isKept = new boolean[WISHES];
            keptDigits = new int[WISHES];
            keptScores = new int[WISHES];
        }

        private void forget() {
            for (int wish = 0; wish < WISHES; wish++) {
                isKept[wish] = false;
            }
        }

        private void hold(Manners held) {
            manners = held;
            forget();
        }

        private int illOf(Seating seating) {
            int sum = 0;
            for (int s = 0; s < members.size; s++) {
                int left = seating.memberOn(seating.leftOf(s, members.ring));
                sum += left == NONE ? 0 : worthOf(left, seating.memberOn(s), s);
            }
            return sum;
        }

        private int worthOf(int left, int right, int seat) {
            int enemies = members.areEnemies(left, right) ? 1 : 0;
            if (manners == null) {
                return enemies;
            }
            letters[0] = members.fact(VOTE, left);
            letters[1] = members.fact(VOTE, right);
            letters[2] = members.fact(DELAY, left);
            letters[3] = members.fact(KIND, left) == DUMMY ? 0 : members.fact(ERROR, left);
            letters[4] = enemies;
            letters[5] = seat;
            return manners.worthBy(letters);
        }

        private int seatingFor(int wish) {
            return wish >= 0 && wish < WISHES ? keptDigits[wish] : HIDDEN;
        }

        private int muchFor(int wish) {
            if (wish < 0 || wish >= WISHES) {
                return HIDDEN;
            }
            // ILL is least where the score is most
            return wish == 0 ? -keptScores[wish] : keptScores[wish];
        }

        private void search(int wish) {
            if (wish < 0 || wish >= WISHES || isKept[wish]) {
                return;
            }
            if (wish == 0) {
                fillWorths();
            }
            allAlive = Integer.bitCount(members.living());
            mostRound = wish == 2 ? roundHope() : 0;
            found = false;
            place(wish, 0, 0, 0, 0);
            keptDigits[wish] = bestDigits;
            keptScores[wish] = bestScore;
            isKept[wish] = true;
        }

        /** WORTH hangs on two and a SEAT alone, so it is asked once for each such three, not in each SEATING. */
        private void fillWorths() {
            Arrays.fill(leastFrom, 0);
            for (int s = members.size - 1; s >= 0 && s < MOST_MEMBERS; s--) {
                leastFrom[s] = leastFrom[s + 1] + (s > 0 ? fillWorthsAt(s) : 0);
            }
            // the ring's last pair is still to come whatever sits already
            int closing = members.ring ? fillWorthsAt(0) : 0;
            for (int s = 0; s < leastFrom.length; s++) {
                leastFrom[s] += closing;
            }
        }

        /** The least of them. */
        private int fillWorthsAt(int seat) {
            boolean any = false;
            int least = 0;
            for (int left = 0; left < members.size; left++) {
                for (int right = 0; right < members.size; right++) {
                    int at = (left * MOST_MEMBERS + right) * MOST_MEMBERS + seat;
                    if (left != right && at >= 0 && at < worths.length) {
                        worths[at] = worthOf(left, right, seat);
                        least = any ? Math.min(least, worths[at]) : worths[at];
                        any = true;
                    }
                }
            }
            return least;
        }

        private int keptWorth(int left, int right, int seat) {
            int at = (left * MOST_MEMBERS + right) * MOST_MEMBERS + seat;
            return at >= 0 && at < worths.length ? worths[at] : 0;
        }

        /** Fills the SEATS from this one on; what can't be better than the best found is left out. */
        private void place(int wish, int seat, int used, int living, int score) {
            if (seat >= members.size || seat >= MOST_MEMBERS) {
                judge(score + lastGain(wish, seat, living));
                return;
            }
            for (int m = 0; m < members.size; m++) {
                if ((used >> m & 1) != 0) {
                    continue;
                }
                order[seat] = m;
                int more = living;
                if (members.lives(m) && living >= 0 && living < MOST_MEMBERS) {
                    alive[living] = m;
                    more++;
                }
                int sum = score + gain(wish, seat, living, m);
                int seated = used | 1 << m;
                if (!found || sum + hope(wish, seat + 1, seated, more) > bestScore) {
                    place(wish, seat + 1, seated, more, sum);
                }
            }
        }

        private void judge(int score) {
            if (found && score <= bestScore) {
                return;
            }
            found = true;
            bestScore = score;
            bestDigits = 0;
            for (int s = 0; s < members.size && s < MOST_MEMBERS; s++) {
                bestDigits = bestDigits * 10 + order[s];
            }
        }

        private int gain(int wish, int seat, int living, int member) {
            if (wish == 0) {
                return seat > 0 && seat <= MOST_MEMBERS ? -keptWorth(order[seat - 1], member, seat) : 0;
            }
            if (!members.lives(member)) {
                return 0;
            }
            if (wish == 2) {
                // in a row nobody who sits down later changes the ROUND
                return member == 0 && !members.ring ? roundScore(living + 1) : 0;
            }
            return living > 0 && living <= MOST_MEMBERS && !members.swallows(alive[living - 1], member) ? 1 : 0;
        }

        /** What the ring's last pair gives, and its ROUND, which is known only when all sit. */
        private int lastGain(int wish, int seat, int living) {
            if (!members.ring || seat < 1 || seat > MOST_MEMBERS) {
                return 0;
            }
            if (wish == 2) {
                return roundScore(living);
            }
            if (wish == 0) {
                return -keptWorth(order[seat - 1], order[0], 0);
            }
            if (living < 2 || living > MOST_MEMBERS) {
                return 0;
            }
            return members.swallows(alive[living - 1], alive[0]) ? 0 : 1;
        }

        /** The most that the SEATS yet to be filled, and the ring's last pair, can give. */
        private int hope(int wish, int seat, int seated, int living) {
            if (wish == 0) {
                return seat >= 0 && seat < leastFrom.length ? -leastFrom[seat] : 0;
            }
            if (wish == 1) {
                return allAlive - living + (members.ring ? 1 : 0);
            }
            return !members.ring && (seated & 1) != 0 ? 0 : mostRound;
        }

        /** No ROUND of MEMBER 0 can be better: all that hear pass it on, the quickest first. */
        private int roundHope() {
            int hearing = 0;
            for (int m = 0; m < members.size; m++) {
                hearing |= members.lives(m) && members.fact(KIND, m) != DEAF ? 1 << m : 0;
            }
            int others = hearing & ~1;
            if (others == 0 || !members.lives(0)) {
                return 0;
            }
            boolean comesBack = members.ring && hearing == members.living();
            int steps = comesBack ? Talk.MOST_STEPS : Integer.bitCount(others);
            int open = others;
            int score = 0;
            for (int step = 0; step < steps; step++) {
                int mouth = open == 0 ? 0 : quickest(open);
                open = open == 0 ? others : open & ~(1 << mouth);
                score += STEP_WORTH - members.fact(DELAY, mouth);
            }
            return score;
        }

        private int quickest(int bits) {
            int who = NONE;
            for (int m = 0; m < members.size; m++) {
                boolean may = (bits >> m & 1) != 0;
                if (may && (who == NONE || members.fact(DELAY, m) < members.fact(DELAY, who))) {
                    who = m;
                }
            }
            return who;
        }

        private int roundScore(int living) {
            int at = NONE;
            for (int i = 0; i < living && i < MOST_MEMBERS; i++) {
                at = alive[i] == 0 ? i : at;
            }
            int score = 0;
            for (int step = 0; step < Talk.MOST_STEPS && at >= 0 && at < MOST_MEMBERS; step++) {
                int before = at > 0 || !members.ring ? at - 1 : living - 1;
                if (before < 0 || before >= MOST_MEMBERS || before == at) {
                    return score;
                }
                if (members.swallows(alive[before], alive[at])) {
                    return score;
                }
                score += STEP_WORTH - members.fact(DELAY, alive[before]);
                at = before;
            }
            return score;
        }
    }

    /** CHANGES: all SEATINGS that can be reached, by rising numbers of exchanges. */
    private static final class Changes {
        private static final int MOST_SEATINGS = 5040;
        private static final int BITS = 64;

        private final Members members;
        private final Seating start;
        private final Seating trial;
        private final Talk trialTalk;
        private final int[] reached;
        private int reachedCount;
        private final long[] reachedBits;
        private boolean isKept;
        private int fewest;
        private int target;

        private Changes(Members members, Seating start) {
            this.members = members;
            this.start = start;
            trial = new Seating();
            trialTalk = new Talk(members, trial);
            reached = new int[MOST_SEATINGS];
            reachedCount = 0;
            reachedBits = new long[MOST_SEATINGS / BITS + 1];
            isKept = false;
            fewest = NONE;
            target = NONE;
        }

        private void forget() {
            isKept = false;
        }

        private void search() {
            if (isKept) {
                return;
            }
            isKept = true;
            fewest = NONE;
            target = NONE;
            int living = members.living();
            // a look at orders alone spares going through all SEATINGS where none will do
            if (living == 0 || canBeOrdered(living, NONE, NONE)) {
                goThrough();
            }
        }

        /** Whether those left can sit behind the last one so that no word is swallowed. */
        private boolean canBeOrdered(int left, int first, int last) {
            if (left == 0) {
                return !members.ring || first != last && !members.swallows(last, first);
            }
            for (int m = 0; m < members.size; m++) {
                boolean may = (left >> m & 1) != 0 && (last == NONE || !members.swallows(last, m));
                if (may && canBeOrdered(left & ~(1 << m), first == NONE ? m : first, m)) {
                    return true;
                }
            }
            return false;
        }

        private void goThrough() {
            Arrays.fill(reachedBits, 0L);
            reachedCount = 0;
            trial.copyFrom(start);
            reach();
            int from = 0;
            for (int exchanges = 0; exchanges < MOST_SEATINGS && from < reachedCount; exchanges++) {
                int to = reachedCount;
                target = leastGood(from, to);
                if (target != NONE) {
                    fewest = exchanges;
                    return;
                }
                for (int i = from; i < to && i < MOST_SEATINGS; i++) {
                    exchangeAll(reached[i]);
                }
                from = to;
            }
        }

        private int leastGood(int from, int to) {
            int least = NONE;
            for (int i = Math.max(0, from); i < to && i < MOST_SEATINGS; i++) {
                if (least == NONE || reached[i] < least) {
                    trial.take(reached[i]);
                    least = trialTalk.isAllHeard() ? reached[i] : least;
                }
            }
            return least;
        }

        private void exchangeAll(int digits) {
            trial.take(digits);
            for (int s = 0; s < members.size; s++) {
                int right = trial.rightOf(s, members.ring);
                if (right != NONE) {
                    trial.exchange(s, right);
                    reach();
                    trial.exchange(s, right);
                }
            }
        }

        private void reach() {
            int rank = rankOfTrial();
            if (rank < 0 || rank >= MOST_SEATINGS || reachedCount < 0 || reachedCount >= MOST_SEATINGS) {
                return;
            }
            long bit = 1L << rank % BITS;
            if ((reachedBits[rank / BITS] & bit) == 0) {
                reachedBits[rank / BITS] |= bit;
                reached[reachedCount] = trial.digits();
                reachedCount++;
            }
        }

        /** How many SEATINGS are less as digits. */
        private int rankOfTrial() {
            int rank = 0;
            int free = (1 << members.size) - 1;
            for (int s = 0; s < members.size; s++) {
                int bit = 1 << trial.memberOn(s);
                rank = rank * (members.size - s) + Integer.bitCount(free & (bit - 1));
                free &= ~bit;
            }
            return rank;
        }
    }

    /** The SITTINGS put by, and the state of draws ahead of each, so that they can be undone. */
    private static final class Sittings {
        private static final int MOST_SITTINGS = 40;
        private static final long FACTOR = 6364136223846793005L;
        private static final long ADDEND = 1442695040888963407L;

        private int held;
        private long state;
        private final int[] yes;
        private final int[] passings;
        private final long[] statesAhead;

        private Sittings() {
            held = 0;
            state = 0;
            yes = new int[MOST_SITTINGS];
            passings = new int[MOST_SITTINGS];
            statesAhead = new long[MOST_SITTINGS];
        }

        private boolean isFull() {
            return held >= MOST_SITTINGS;
        }

        private int draw(int sides) {
            state = state * FACTOR + ADDEND;
            return sides <= 0 ? 0 : (int) ((state >>> 33) % sides);
        }

        private void putBy(int yesOnes, boolean isPassed, long ahead) {
            if (held < 0 || isFull()) {
                return;
            }
            yes[held] = yesOnes;
            passings[held] = isPassed ? 1 : 0;
            statesAhead[held] = ahead;
            held++;
        }

        private int takeBack() {
            if (held > 0 && held <= MOST_SITTINGS) {
                held--;
                state = statesAhead[held];
            }
            return held;
        }

        private int yesOf(int number) {
            return number >= 0 && number < held && number < MOST_SITTINGS ? yes[number] : NONE;
        }

        private int passedOf(int number) {
            return number >= 0 && number < held && number < MOST_SITTINGS ? passings[number] : NONE;
        }

        private int passedOnes() {
            int sum = 0;
            for (int i = 0; i < held && i < MOST_SITTINGS; i++) {
                sum += passings[i];
            }
            return sum;
        }

        private void copyFrom(Sittings other) {
            held = other.held;
            state = other.state;
            System.arraycopy(other.yes, 0, yes, 0, MOST_SITTINGS);
            System.arraycopy(other.passings, 0, passings, 0, MOST_SITTINGS);
            System.arraycopy(other.statesAhead, 0, statesAhead, 0, MOST_SITTINGS);
        }
    }
}
