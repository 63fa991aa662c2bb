import java.util.Random;

/** All promises: runs of drawn calls, each answered by KeyCustody and by Model, a second telling of the document. */
public final class ModelTest {
    private static final int RUNS = 1500;
    private static final int CALLS = 512;
    private static final String[] NAMES = {
        "group", "found", "fault", "deal", "look", "answer", "close", "wipe", "recover",
        "share", "fits", "sum", "element", "reconstruct", "post", "about"};
    private static final int[][] GROUPS = {
        {23, 11, 2}, {23, 11, 13}, {607, 101, 64}, {2147483647, 11, 298192073},
        {2147286433, 32749, 503364241}, {53, 13, 10}, {23, 11, 5}, {529, 11, 118}, {31, 15, 2}};
    private static final int SOUND_GROUPS = 6;
    /** How often each call is drawn, by manner of the run. */
    private static final int[][] WEIGHTS = {
        {1, 1, 8, 14, 12, 12, 5, 5, 6, 6, 6, 3, 4, 6, 8, 10},
        {0, 0, 3, 9, 9, 60, 0, 1, 1, 2, 2, 1, 1, 2, 10, 6},
        {0, 0, 12, 20, 25, 3, 5, 1, 1, 2, 2, 1, 1, 2, 6, 6},
        {0, 1, 6, 12, 4, 4, 10, 14, 14, 8, 8, 2, 4, 10, 2, 6},
    };

    public static void main(String[] args) {
        int wrong = 0;
        for (int run = 0; run < RUNS && wrong < 10; run++) {
            wrong += isAsDue(run) ? 0 : 1;
        }
        System.out.println(wrong == 0 ? "all answers are as due" : wrong + " runs are not as due");
        if (wrong != 0) {
            System.exit(1);
        }
    }

    private static boolean isAsDue(int run) {
        Random random = new Random(run);
        int[] weights = WEIGHTS[run % WEIGHTS.length];
        int[] group = GROUPS[run / WEIGHTS.length % SOUND_GROUPS];
        KeyCustody custody = new KeyCustody();
        Model model = new Model();
        int q = group[1];
        for (int n = 0; n < CALLS; n++) {
            int call = n > 1 || run % 10 == 9 ? drawn(random, weights) : n;
            int[] with = n == 0 && call == 0 ? group : arguments(random, call, q, model.postCount());
            String got = Calls.outcome(custody, NAMES[call], with);
            String want = model.outcome(NAMES[call], with);
            if (call == 0 && got.equals("done")) {
                q = with[1];
            }
            if (!got.equals(want)) {
                System.out.println("run " + run + ", call " + n + ": " + NAMES[call]
                    + java.util.Arrays.toString(with) + " answered " + got + ", due is " + want);
                return false;
            }
        }
        return true;
    }

    private static int drawn(Random random, int[] weights) {
        int total = 0;
        for (int weight : weights) {
            total += weight;
        }
        int left = random.nextInt(total);
        int call = 0;
        while (left >= weights[call]) {
            left -= weights[call];
            call++;
        }
        return call;
    }

    private static int[] arguments(Random random, int call, int q, int posts) {
        switch (NAMES[call]) {
            case "group":
                return GROUPS[random.nextInt(GROUPS.length)];
            case "found":
                return new int[] {number(random, q), number(random, q), number(random, q), number(random, q)};
            case "deal":
                return new int[] {seat(random), number(random, q), number(random, q), number(random, q)};
            case "fault":
                return new int[] {seat(random), kind(random), 0};
            case "answer":
                return new int[] {seat(random), seat(random), 0};
            case "post":
                return new int[] {random.nextInt(posts + 3) - 1, random.nextInt(11) - 1, 0};
            case "reconstruct":
                return new int[] {random.nextInt(135) - 3, 0, 0};
            case "sum":
                return new int[] {random.nextInt(6) - 1, 0, 0};
            case "about":
                return new int[] {random.nextInt(9) - 1, 0, 0};
            default:
                return new int[] {seat(random), 0, 0};
        }
    }

    private static int seat(Random random) {
        return random.nextInt(30) == 0 ? 8 * random.nextInt(2) : 1 + random.nextInt(7);
    }

    private static int kind(Random random) {
        return random.nextInt(20) == 0 ? 8 * random.nextInt(2) - 1 : random.nextInt(7);
    }

    private static int number(Random random, int q) {
        int drawn = random.nextInt(40);
        if (drawn == 0) {
            return -1;
        }
        return drawn == 1 ? q : random.nextInt(q);
    }
}
