import java.util.ArrayList;
import java.util.HashMap;
import java.util.List;
import java.util.Map;
import java.util.Random;

/** BEST SEATINGS and CHANGES, gone through SEATING by SEATING with the face's own calls. */
public final class SearchTests extends Edge {
    private static final String[] MANNERS = {"", "y:d", "y:d*s", "y:0-d*s", "y:n*100+v-w", "y:e*s-d", "y:v=w?d;y:0-e",
        "y:!(n=1|s<2)&d>5?9;y:s*n-v", "y:s=0?d*d;y:d/[s+1]", "y:9999*9999-d", "y:[0-9999]*9999+e"};

    private final String text;
    private final String manners;
    private final int many;
    private final boolean ring;
    private final List<Integer> seatings = new ArrayList<>();
    private final Map<Integer, Boolean> fine = new HashMap<>();
    private final int[] bestSeating = new int[3];
    private final int[] bestScore = new int[3];
    private MouthHouse asked = null;

    private SearchTests(String text, String manners) {
        this.text = text;
        this.manners = manners;
        MouthHouse x = make();
        many = x.count(0);
        ring = x.count(1) == 1;
        fill("", many);
    }

    public static void main(String[] args) {
        Random random = new Random(20);
        sentence(21, "BEST SEATING: it (0), how much (1).");
        sentenceByDraws(random);
        sentence(22, "CHANGES: how many (0), the SEATING (1).");
        farChanges();
        for (int i = 0; i < 40; i++) {
            new SearchTests(hostile(random, 4 + i % 2), "").compareManyChanges(random, 120);
        }
        for (int i = 0; i < 10; i++) {
            new SearchTests(hostile(random, 6 + i % 2), "").compareManyChanges(random, 30);
        }
        close();
    }

    private static void sentenceByDraws(Random random) {
        for (int i = 0; i < 150; i++) {
            new SearchTests(drawn(random, 2 + i % 4), MANNERS[random.nextInt(MANNERS.length)]).compare(random);
        }
        for (int i = 0; i < 6; i++) {
            new SearchTests(drawn(random, 6 + i % 2), MANNERS[random.nextInt(MANNERS.length)]).compare(random);
        }
    }

    /** Houses of seven whose words are all HEARD only far from where they sit. */
    private static void farChanges() {
        String[] far = {"mk3;mn2;mn3;mn4;mn5;mn6;m", "mn1;mn2;mn3;mn4;mn5;mn6;mk3", "r;mn1;mn2;mn3;mn4;mn5;mn6;mn0",
            "r;mn3;mn4;mn5;mn6;mn0;mn1;mn2", "mn6;mk1;mn1;mn0;mk3;mn3;mn2",
            "mn3;mn0;mn1k3;mn0;mn0;mn4;mn0", "mn4;mn1k3;mn6;mn6;mn1;mn5;mn1", "mk3;mk1;mk1;mk1;mk1;mk1;m"};
        for (String text : far) {
            SearchTests one = new SearchTests(text, "");
            one.judgeAll();
            for (int seating : new int[] {123456, 6543210, 3051624, 2516340, 1265034}) {
                one.compareChanges(seating);
            }
        }
    }

    /** Nearly all have enemies, and mostly one is deaf, so that few SEATINGS will do. */
    private static String hostile(Random random, int many) {
        boolean ring = random.nextInt(4) == 0;
        int deaf = ring ? NONE : random.nextInt(many + 1);
        StringBuilder house = new StringBuilder(ring ? "r" : "");
        for (int m = 0; m < many; m++) {
            house.append(house.length() > 0 ? ";m" : "m").append(random.nextInt(8) > 0 ? "n" + random.nextInt(many) : "");
            house.append(m == deaf ? "k3" : "");
        }
        return house.toString();
    }

    private static String drawn(Random random, int many) {
        StringBuilder house = new StringBuilder(random.nextBoolean() ? "r" : "");
        boolean calm = random.nextBoolean();
        for (int m = 0; m < many; m++) {
            house.append(house.length() > 0 ? ";m" : "m").append("d").append(random.nextInt(21));
            house.append(random.nextInt(3) > 0 ? "n" + random.nextInt(many) : "");
            house.append(random.nextInt(3) > 0 ? "" : "v0").append(random.nextInt(3) > 0 ? "" : "e" + random.nextInt(100));
            house.append(random.nextInt(calm ? 12 : 3) > 0 ? "" : "k" + (1 + random.nextInt(3)));
        }
        return house.toString();
    }

    private MouthHouse make() {
        MouthHouse x = new MouthHouse();
        told(x, 0, text);
        if (!manners.isEmpty()) {
            told(x, 1, manners);
            x.manners(0);
        }
        return x;
    }

    private void fill(String digits, int left) {
        if (left == 0) {
            seatings.add(Integer.parseInt(digits));
            return;
        }
        for (int m = 0; m < many; m++) {
            if (digits.indexOf('0' + m) < 0) {
                fill(digits + m, left - 1);
            }
        }
    }

    private void compare(Random random) {
        judgeAll();
        MouthHouse x = make();
        x.sit(seatings.get(random.nextInt(seatings.size())));
        for (int wish = 0; wish < 3; wish++) {
            String call = "best(" + wish + ", ..) of " + text + " by " + manners;
            due(call, x.best(wish, 0), bestSeating[wish]);
            due(call, x.best(wish, 1), wish == 0 ? -bestScore[wish] : bestScore[wish]);
        }
        compareChanges(x.count(4));
    }

    /** From every SEATING, or from so many drawn ones. */
    private void compareManyChanges(Random random, int most) {
        judgeAll();
        for (int i = 0; i < Math.min(most, seatings.size()); i++) {
            compareChanges(seatings.get(most < seatings.size() ? random.nextInt(seatings.size()) : i));
        }
    }

    private void judgeAll() {
        for (int i = 0; i < seatings.size(); i++) {
            if (i % 10 == 0) { // an object is good for 512 calls
                asked = make();
            }
            int seating = seatings.get(i);
            asked.sit(seating);
            fine.put(seating, isAllHeard());
            int[] scores = {-asked.ill(), asked.tally(0), roundScore()};
            for (int wish = 0; wish < 3; wish++) {
                if (i == 0 || scores[wish] > bestScore[wish]) {
                    bestScore[wish] = scores[wish];
                    bestSeating[wish] = seating;
                }
            }
        }
    }

    private boolean isAllHeard() {
        for (int m = 0; m < many; m++) {
            boolean letOff = !ring && asked.member(m, 8) == NONE;
            if (asked.member(m, 3) != 1 && asked.member(m, 9) == 0 && !letOff) {
                return false;
            }
        }
        return true;
    }

    private int roundScore() {
        int score = 0;
        for (int steps = 0; steps <= 7 && asked.round(0, steps, 1) != NONE; steps++) {
            score = 1000 * steps - (int) asked.round(0, steps, 1);
        }
        return score;
    }

    private void compareChanges(int from) {
        List<Integer> edge = new ArrayList<>(List.of(from));
        Map<Integer, Boolean> seen = new HashMap<>();
        seen.put(from, true);
        int fewest = NONE;
        int target = NONE;
        for (int steps = 0; !edge.isEmpty() && target == NONE; steps++) {
            List<Integer> next = new ArrayList<>();
            for (int seating : edge) {
                if (fine.get(seating) && (target == NONE || seating < target)) {
                    fewest = steps;
                    target = seating;
                }
                step(seating, seen, next);
            }
            edge = next;
        }
        MouthHouse x = make();
        x.sit(from);
        due("changes(0) of " + text + " from " + from, x.changes(0), fewest);
        due("changes(1) of " + text + " from " + from, x.changes(1), target);
    }

    private void step(int seating, Map<Integer, Boolean> seen, List<Integer> next) {
        StringBuilder padded = new StringBuilder("" + seating);
        while (padded.length() < many) {
            padded.insert(0, '0');
        }
        for (int s = 0; s < many - (ring ? 0 : 1); s++) {
            StringBuilder moved = new StringBuilder(padded);
            moved.setCharAt(s, padded.charAt((s + 1) % many));
            moved.setCharAt((s + 1) % many, padded.charAt(s));
            int digits = Integer.parseInt(moved.toString());
            if (seen.put(digits, true) == null) {
                next.add(digits);
            }
        }
    }
}
