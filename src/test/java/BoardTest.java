/** Promises 16 and 17: post and about. */
public final class BoardTest {
    private static final Check CHECK = new Check();

    public static void main(String[] args) {
        eachPostTellsAll();
        whatIsNoPostIsRefused();
        anEmptiedBoardForgets();
        aboutCountsThisWeek();
        anotherWhatIsRefused();
        CHECK.end();
    }

    /** Posts 0 to 2 are of week 1, the others of week 2. */
    private static KeyCustody withPosts() {
        KeyCustody x = Check.dealt(5);
        x.look(2);
        x.answer(1, 2);
        x.close();
        x.fault(3, 3);
        x.deal(3, 3, 4, 5);
        return x;
    }

    private static void eachPostTellsAll() {
        KeyCustody x = withPosts();
        int[][] wants = {
            {1, 1, 0, 0, 1, 1, 527, 343, 100},
            {2, 2, 1, 0, 1, 0, 0, 0, 0},
            {3, 1, 2, 62, 1, 0, 0, 0, 0},
            {1, 3, 0, 0, 2, 64, 527, 343, 100},
        };
        for (int n = 0; n < wants.length; n++) {
            for (int what = 0; what <= 8; what++) {
                CHECK.due("post(" + n + ", " + what + ")", x.post(n, what), wants[n][what]);
            }
        }
    }

    private static void whatIsNoPostIsRefused() {
        KeyCustody x = withPosts();
        for (int n : new int[] {-1, 4, 249, 250, Integer.MIN_VALUE, Integer.MAX_VALUE}) {
            CHECK.refused("post(" + n + ", 0)", Check.OUTSIDE, () -> x.post(n, 0));
            CHECK.refused("post(" + n + ", 9)", Check.OUTSIDE, () -> x.post(n, 9));
        }
        for (int what : new int[] {-1, 9, Integer.MIN_VALUE, Integer.MAX_VALUE}) {
            CHECK.refused("post(0, " + what + ")", Check.WRONG, () -> x.post(0, what));
        }
        KeyCustody full = Check.boardWith(250);
        CHECK.due("the last post there can be", full.post(249, 3), 62);
        CHECK.refused("post(250, 0)", Check.OUTSIDE, () -> full.post(250, 0));
    }

    private static void anEmptiedBoardForgets() {
        KeyCustody x = withPosts();
        x.found(42, 5, 6, 7);
        CHECK.refused("post(0, 0) behind found", Check.OUTSIDE, () -> x.post(0, 0));
        x.fault(2, 4);
        x.fault(1, 1);
        x.deal(1, 1, 1, 1);
        x.deal(4, 3, 4, 5);
        x.look(2);
        x.answer(4, 2);
        x.answer(4, 2);
        CHECK.due("about(1)", x.about(1), 4);
        for (int what = 5; what <= 8; what++) {
            CHECK.due("post(3, " + what + ") in an old dealing's place", x.post(3, what), 0);
        }
    }

    private static void aboutCountsThisWeek() {
        KeyCustody x = Check.founded();
        x.fault(2, 4);
        x.fault(5, 1);
        x.fault(6, 2);
        x.deal(5, 1, 1, 1);
        x.deal(6, 1, 1, 1);
        x.deal(1, 1, 1, 1);
        x.look(2);
        x.look(7);
        x.answer(1, 2);
        x.wipe(3);
        x.wipe(7);
        int[] wants = {1, 6, 3, 1, 33, 68, 50};
        int[] next = {2, 6, 0, 0, 0, 68, 0};
        for (int what = 0; what <= 6; what++) {
            CHECK.due("about(" + what + ")", x.about(what), wants[what]);
        }
        x.close();
        for (int what = 0; what <= 6; what++) {
            CHECK.due("about(" + what + ") in week 2", x.about(what), next[what]);
        }
    }

    private static void anotherWhatIsRefused() {
        for (int what : new int[] {-1, 7, 8, Integer.MIN_VALUE, Integer.MAX_VALUE}) {
            KeyCustody fresh = new KeyCustody();
            CHECK.refused("about(" + what + ") of a new object", Check.WRONG, () -> fresh.about(what));
            KeyCustody x = Check.founded();
            CHECK.refused("about(" + what + ")", Check.WRONG, () -> x.about(what));
        }
    }
}
