/** Promise 2. */
public final class GroupTest {
    private static final Check CHECK = new Check();

    public static void main(String[] args) {
        groupsAreTaken();
        whatIsNoGroupIsRefused();
        aGroupEndsWhatWasFounded();
        aRefusedGroupChangesNothing();
        CHECK.end();
    }

    private static void groupsAreTaken() {
        isTaken(23, 11, 2);
        isTaken(23, 11, 3);
        isTaken(607, 101, 64);
        isTaken(2147483647, 11, 298192073);
        isTaken(2147286433, 32749, 503364241);
    }

    private static void isTaken(int p, int q, int g) {
        KeyCustody x = new KeyCustody();
        x.group(p, q, g);
        x.found(q - 1, 1, 0, 0);
        CHECK.due("share(1) with p " + p, x.share(1), 0);
        CHECK.due("sum(1) with p " + p, x.sum(1), g);
        CHECK.refused("found(q) with p " + p, Check.WRONG, () -> x.found(q, 0, 0, 0));
    }

    private static void whatIsNoGroupIsRefused() {
        isRefused("g to the q isn't 1", 23, 11, 22);
        isRefused("g to the q isn't 1", 23, 11, 5);
        isRefused("g is 1", 23, 11, 1);
        isRefused("g is 0", 23, 11, 0);
        isRefused("g is negative", 23, 11, -21);
        isRefused("g is p + 1", 23, 11, 24);
        isRefused("g is p + 2, a generator modulo p", 23, 11, 25);
        isRefused("g is p", 23, 11, 23);
        isRefused("q doesn't divide p - 1", 24, 11, 2);
        isRefused("q doesn't divide p - 1", 29, 11, 2);
        isRefused("q is below 11", 29, 7, 16);
        isRefused("q is above 32749", 65543, 32771, 4);
        isRefused("q is 0", 23, 0, 2);
        isRefused("q is 1", 23, 1, 2);
        isRefused("q is negative", 23, -11, 2);
        isRefused("q is no prime", 13, 12, 2);
        isRefused("q is no prime", 31, 15, 2);
        isRefused("q is no prime", 101, 25, 5);
        isRefused("q is no prime", 727, 121, 2);
        isRefused("p is no prime", 529, 11, 118);
        isRefused("p is no prime", 1431, 13, 28);
        isRefused("p is no prime", 2809, 53, 54);
        isRefused("p is no prime", 39601, 11, 1706);
        isRefused("p is 1", 1, 11, 2);
        isRefused("p is 0", 0, 11, 2);
        isRefused("p is negative", -21, 11, 2);
        isRefused("p is the least int", Integer.MIN_VALUE, 11, 2);
        isRefused("all are 0", 0, 0, 0);
        isRefused("all are the least int", Integer.MIN_VALUE, Integer.MIN_VALUE, Integer.MIN_VALUE);
    }

    private static void isRefused(String why, int p, int q, int g) {
        KeyCustody x = new KeyCustody();
        CHECK.refused("group: " + why + ", " + p, Check.WRONG, () -> x.group(p, q, g));
        CHECK.refused("found behind a refused group", Check.NOT_FOUNDED, () -> x.found(0, 0, 0, 0));
    }

    private static void aGroupEndsWhatWasFounded() {
        KeyCustody x = Check.dealt(4);
        x.look(1);
        x.answer(1, 1);
        x.wipe(2);
        x.close();
        x.fault(3, 2);
        x.deal(3, 1, 1, 1);
        x.look(4);
        x.group(23, 11, 2);
        for (int what = 0; what <= 6; what++) {
            CHECK.due("about(" + what + ") behind group", x.about(what), 0);
        }
        x.found(7, 1, 2, 3);
        CHECK.due("about(1) behind found", x.about(1), 0);
        CHECK.due("share(2) behind found", x.share(2), 8);
    }

    private static void aRefusedGroupChangesNothing() {
        KeyCustody x = Check.dealt(0);
        CHECK.refused("group", Check.WRONG, () -> x.group(23, 11, 22));
        CHECK.due("about(0)", x.about(0), 1);
        CHECK.due("about(1)", x.about(1), 1);
        CHECK.due("share(1)", x.share(1), 60);
        CHECK.due("element(3)", x.element(3), 478);
        CHECK.due("close()", x.close(), 1);
    }
}
