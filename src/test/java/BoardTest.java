import java.util.function.Supplier;

/** Promises 16 and 17: post and about. */
public final class BoardTest {
    private static final Check CHECK = new Check();

    public static void main(String[] args) {
        eachPostTellsAll();
        anEmptyBoardHasNoPost();
        postsAreNumberedFrom0();
        aFullBoardHas250();
        whatIsFrom0To8();
        noPostComesAheadOfNoWhat();
        anEmptiedBoardForgets();
        aboutCountsThisWeek();
        aboutIsFrom0To6();
        CHECK.end();
    }

    /** Posts 0 to 2 are of week 1, the last is of week 2. */
    private static KeyCustody withPosts() {
        KeyCustody x = Check.dealt(5);
        x.look(2);
        x.answer(1, 2);
        x.close();
        x.fault(3, 3);
        x.deal(3, 3, 4, 5);
        return x;
    }

    private static void eachPostTellsAll() {
        KeyCustody x = withPosts();
        int[][] wants = {
            {1, 1, 0, 0, 1, 1, 527, 343, 100},
            {2, 2, 1, 0, 1, 0, 0, 0, 0},
            {3, 1, 2, 62, 1, 0, 0, 0, 0},
            {1, 3, 0, 0, 2, 64, 527, 343, 100},
        };
        for (int n = 0; n < wants.length; n++) {
            for (int what = 0; what <= 8; what++) {
                CHECK.due("post(" + n + ", " + what + ")", x.post(n, what), wants[n][what]);
            }
        }
    }

    private static KeyCustody emptiedBy(int... call) {
        KeyCustody x = withPosts();
        if (call.length == 3) {
            x.group(call[0], call[1], call[2]);
            x.found(1, 1, 1, 1);
        } else {
            x.found(call[0], call[1], call[2], call[3]);
        }
        return x;
    }

    private static void anEmptyBoardHasNoPost() {
        CHECK.due("about(1) of an empty board", Check.founded().about(1), 0);
        hasNoPost("empty", Check::founded, 0);
        hasNoPost("a silent dealing alone", () -> Check.dealt(1), 0);
        hasNoPost("emptied by found", () -> emptiedBy(42, 5, 6, 7), 0);
        hasNoPost("emptied by group", () -> emptiedBy(23, 11, 2), 0);
    }

    private static void hasNoPost(String when, Supplier<KeyCustody> maker, int posts) {
        for (int n : new int[] {-1, posts, posts + 1, 250, Integer.MIN_VALUE, Integer.MAX_VALUE}) {
            for (int what : new int[] {0, 8}) {
                CHECK.refused(when, Check.OUTSIDE, maker, "post", n, what);
            }
        }
    }

    private static void postsAreNumberedFrom0() {
        KeyCustody x = withPosts();
        CHECK.due("about(1)", x.about(1), 4);
        CHECK.due("post(0, 1)", x.post(0, 1), 1);
        CHECK.due("post(3, 1)", x.post(3, 1), 3);
        hasNoPost("with four posts", BoardTest::withPosts, 4);
    }

    private static void aFullBoardHas250() {
        KeyCustody x = Check.boardWith(250);
        CHECK.due("about(1)", x.about(1), 250);
        CHECK.due("post(0, 8)", x.post(0, 8), 100);
        CHECK.due("post(249, 0)", x.post(249, 0), 3);
        CHECK.due("post(249, 3)", x.post(249, 3), 62);
        CHECK.due("post(249, 8)", x.post(249, 8), 0);
        hasNoPost("full", () -> Check.boardWith(250), 250);
        hasNoPost("one less than full", () -> Check.boardWith(249), 249);
    }

    private static void whatIsFrom0To8() {
        for (int what : new int[] {-1, 9, Integer.MIN_VALUE, Integer.MAX_VALUE}) {
            for (int n = 0; n <= 3; n++) {
                CHECK.refused("no what", Check.WRONG, BoardTest::withPosts, "post", n, what);
            }
        }
        CHECK.due("post(3, 0)", withPosts().post(3, 0), 1);
        CHECK.due("post(3, 8)", withPosts().post(3, 8), 100);
    }

    private static void noPostComesAheadOfNoWhat() {
        for (int what : new int[] {-1, 9}) {
            CHECK.refused("on an empty board", Check.OUTSIDE, Check::founded, "post", 0, what);
            CHECK.refused("behind the last post", Check.OUTSIDE, BoardTest::withPosts, "post", 4, what);
            CHECK.refused("ahead of the first post", Check.OUTSIDE, BoardTest::withPosts, "post", -1, what);
        }
    }

    private static void anEmptiedBoardForgets() {
        KeyCustody x = withPosts();
        x.found(42, 5, 6, 7);
        x.fault(2, 4);
        x.fault(1, 1);
        x.deal(1, 1, 1, 1);
        x.deal(4, 3, 4, 5);
        x.look(2);
        x.answer(4, 2);
        x.answer(4, 2);
        CHECK.due("about(1)", x.about(1), 4);
        for (int what = 5; what <= 8; what++) {
            CHECK.due("post(3, " + what + ") in an old dealing's place", x.post(3, what), 0);
        }
        KeyCustody dealing = Check.boardWith(3);
        dealing.found(42, 5, 6, 7);
        dealing.deal(1, 3, 4, 5);
        dealing.deal(2, 3, 4, 5);
        CHECK.due("post(1, 2) in an old answer's place", dealing.post(1, 2), 0);
        CHECK.due("post(1, 3) in an old answer's place", dealing.post(1, 3), 0);
    }

    private static void aboutCountsThisWeek() {
        KeyCustody x = Check.founded();
        x.fault(2, 4);
        x.fault(5, 1);
        x.fault(6, 2);
        x.deal(5, 1, 1, 1);
        x.deal(6, 1, 1, 1);
        x.deal(1, 1, 1, 1);
        x.look(2);
        x.look(7);
        x.answer(1, 2);
        x.wipe(3);
        x.wipe(7);
        int[] wants = {1, 6, 3, 1, 33, 68, 50};
        int[] next = {2, 6, 0, 0, 0, 68, 0};
        for (int what = 0; what <= 6; what++) {
            CHECK.due("about(" + what + ")", x.about(what), wants[what]);
        }
        x.close();
        for (int what = 0; what <= 6; what++) {
            CHECK.due("about(" + what + ") in week 2", x.about(what), next[what]);
        }
    }

    private static void aboutIsFrom0To6() {
        for (int what : new int[] {-1, 7, 8, Integer.MIN_VALUE, Integer.MAX_VALUE}) {
            CHECK.refused("of a new object", Check.WRONG, KeyCustody::new, "about", what);
            CHECK.refused("with a group", Check.WRONG, Check::grouped, "about", what);
            CHECK.refused("within a week", Check.WRONG, Check::busy, "about", what);
        }
        CHECK.due("about(0) with a group", Check.grouped().about(0), 0);
        CHECK.due("about(6) with a group", Check.grouped().about(6), 0);
    }
}
