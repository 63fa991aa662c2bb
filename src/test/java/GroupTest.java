import java.util.function.Supplier;

/** Promise 2, and the bounds of a group in "Terms". */
public final class GroupTest {
    private static final Check CHECK = new Check();

    public static void main(String[] args) {
        groupsAreTaken();
        qIsFrom11To32749();
        pIsBelow2ToThe31();
        gIsFrom2ToPLess1();
        gToTheQIs1();
        qAndPArePrimes();
        qDividesPLess1();
        smallOnesAreTakenJustIfTheyAreGroups();
        numbersEndAtTheGroupsQ();
        aGroupEndsWhatWasFounded();
        aRefusedGroupChangesNothing();
        CHECK.end();
    }

    private static void groupsAreTaken() {
        isTaken(23, 11, 2);
        isTaken(53, 13, 10);
        isTaken(607, 101, 64);
    }

    private static void isTaken(int p, int q, int g) {
        KeyCustody x = new KeyCustody();
        x.group(p, q, g);
        x.found(q - 1, 1, 0, 0);
        CHECK.due("share(1) with p " + p, x.share(1), 0);
        CHECK.due("sum(1) with p " + p, x.sum(1), g);
        CHECK.due("element(1) with p " + p, x.element(1), 1);
        CHECK.due("fits(7) with p " + p, x.fits(7), true);
    }

    private static void isRefused(String why, int p, int q, int g) {
        CHECK.refused(why, Check.WRONG, KeyCustody::new, "group", p, q, g);
    }

    /** 7 and 32771 are the primes next to the bounds; the rest of each refused group is right. */
    private static void qIsFrom11To32749() {
        isTaken(23, 11, 2);
        isRefused("q is below 11", 29, 7, 16);
        isTaken(327491, 32749, 23);
        isRefused("q is above 32749", 65543, 32771, 4);
        isRefused("q is 0", 23, 0, 2);
        isRefused("q is 1", 23, 1, 2);
        isRefused("q is negative", 23, -11, 2);
        isRefused("q is the least int", 23, Integer.MIN_VALUE, 2);
        isRefused("q is the greatest int", 2147483647, 2147483647, 2);
    }

    private static void pIsBelow2ToThe31() {
        isTaken(2147483647, 11, 298192073);
        isTaken(2147286433, 32749, 503364241);
        isRefused("p is the least int", Integer.MIN_VALUE, 11, 2);
        isRefused("p is 0", 0, 11, 2);
        isRefused("p is 1", 1, 11, 2);
        isRefused("p is 2", 2, 11, 2);
        isRefused("p is q", 11, 11, 2);
        isRefused("p is negative", -21, 11, 2);
        isRefused("all are 0", 0, 0, 0);
        isRefused("all are the least int", Integer.MIN_VALUE, Integer.MIN_VALUE, Integer.MIN_VALUE);
        isRefused("all are the greatest int", Integer.MAX_VALUE, Integer.MAX_VALUE, Integer.MAX_VALUE);
    }

    /** All but 0, 22 and 23 would have 1 as their power q. */
    private static void gIsFrom2ToPLess1() {
        isTaken(23, 11, 2);
        isRefused("g is 1", 23, 11, 1);
        isRefused("g is 0", 23, 11, 0);
        isRefused("g is negative", 23, 11, -21);
        isRefused("g is -22", 23, 11, -22);
        isTaken(23, 11, 18);
        isRefused("g is p - 1", 23, 11, 22);
        isRefused("g is p", 23, 11, 23);
        isRefused("g is p + 1", 23, 11, 24);
        isRefused("g is p + 2", 23, 11, 25);
        isTaken(2147483647, 11, 2139961118);
        isRefused("g is p - 1", 2147483647, 11, 2147483646);
        isRefused("g is p", 2147483647, 11, 2147483647);
        isRefused("g is the least int", 23, 11, Integer.MIN_VALUE);
        isRefused("g is the greatest int", 23, 11, Integer.MAX_VALUE);
    }

    private static void gToTheQIs1() {
        isRefused("g to the q is 22", 23, 11, 5);
        isRefused("g to the q isn't 1", 607, 101, 2);
        isRefused("g to the q isn't 1", 2147286433, 32749, 503364242);
    }

    private static void qAndPArePrimes() {
        isRefused("q is 2 * 2 * 3", 13, 12, 2);
        isRefused("q is 3 * 5", 31, 15, 2);
        isRefused("q is 5 * 5", 101, 25, 5);
        isRefused("q is 11 * 11", 727, 121, 2);
        isRefused("p is 23 * 23", 529, 11, 118);
        isRefused("p is 27 * 53", 1431, 13, 28);
        isRefused("p is 53 * 53", 2809, 53, 54);
        isRefused("p is 199 * 199", 39601, 11, 1706);
        isRefused("p is 7 * 23 * 41", 6601, 11, 288);
        isRefused("p is 7 * 19 * 67", 8911, 11, 533);
        isRefused("p is 46337 * 46337", 2147117569, 181, 2379923);
    }

    private static void qDividesPLess1() {
        isTaken(23, 11, 2);
        isRefused("q doesn't divide p - 1", 29, 11, 2);
        isRefused("q doesn't divide p - 1, but p", 22, 11, 2);
        isRefused("q doesn't divide p - 1", 24, 11, 2);
        isRefused("q doesn't divide p - 1", 607, 103, 64);
    }

    private static void smallOnesAreTakenJustIfTheyAreGroups() {
        for (int p = -1; p <= 110; p++) {
            for (int q = -1; q <= 60; q++) {
                KeyCustody x = new KeyCustody();
                for (int g = -1; g <= p + 2; g++) {
                    boolean taken = Calls.outcome(x, "group", p, q, g).equals("done");
                    CHECK.due("whether group(" + p + ", " + q + ", " + g + ") is taken", taken, isGroup(p, q, g));
                }
            }
        }
    }

    private static boolean isGroup(int p, int q, int g) {
        if (q < 11 || p < 2 || g < 2 || g > p - 1 || !isPrime(p) || !isPrime(q) || (p - 1) % q != 0) {
            return false;
        }
        int power = 1;
        for (int i = 0; i < q; i++) {
            power = power * g % p;
        }
        return power == 1;
    }

    private static boolean isPrime(int n) {
        for (int d = 2; d < n; d++) {
            if (n % d == 0) {
                return false;
            }
        }
        return n > 1;
    }

    private static void numbersEndAtTheGroupsQ() {
        int[][] groups = {{23, 11, 2}, {607, 101, 64}, {2147286433, 32749, 503364241}};
        for (int[] group : groups) {
            int q = group[1];
            Supplier<KeyCustody> maker = () -> {
                KeyCustody x = Check.busy();
                x.group(group[0], q, group[2]);
                return x;
            };
            KeyCustody x = maker.get();
            x.found(q - 1, q - 1, q - 1, q - 1);
            CHECK.due("the key", x.reconstruct(127), q - 1);
            x.deal(1, q - 1, q - 1, q - 1);
            CHECK.due("close()", x.close(), 1);
            CHECK.refused("of q itself", Check.WRONG, maker, "found", q, 0, 0, 0);
        }
    }

    private static void aGroupEndsWhatWasFounded() {
        KeyCustody x = Check.busy();
        x.group(23, 11, 2);
        for (int what = 0; what <= 6; what++) {
            CHECK.due("about(" + what + ") behind group", x.about(what), 0);
        }
        x.found(7, 1, 2, 3);
        KeyCustody fresh = new KeyCustody();
        fresh.group(23, 11, 2);
        fresh.found(7, 1, 2, 3);
        CHECK.alike("behind a group and a founding", x, fresh);
        KeyCustody same = Check.busy();
        same.group(607, 101, 64);
        CHECK.alike("behind the same group again", same, Check.grouped());
        KeyCustody full = Check.boardWith(250);
        full.group(607, 101, 64);
        CHECK.due("about(1) of a board that was full", full.about(1), 0);
        full.found(42, 5, 6, 7);
        full.deal(1, 3, 4, 5);
        CHECK.due("about(1) with a dealing", full.about(1), 1);
    }

    private static void aRefusedGroupChangesNothing() {
        CHECK.refused("with a group", Check.WRONG, Check::grouped, "group", 23, 11, 22);
        CHECK.refused("with a founding", Check.WRONG, Check::founded, "group", 23, 11, 1);
        CHECK.refused("within a week", Check.WRONG, Check::busy, "group", 24, 11, 2);
        CHECK.refused("within a week", Check.WRONG, Check::busy, "group", 529, 11, 118);
        CHECK.refused("with a full board", Check.WRONG, () -> Check.boardWith(250), "group", 29, 7, 16);
    }
}
