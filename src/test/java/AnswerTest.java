import java.util.function.Supplier;

/** Promise 7. */
public final class AnswerTest {
    private static final Check CHECK = new Check();

    public static void main(String[] args) {
        answersArePostedWithoutAComplaint();
        complaintsAreSettledOnce();
        anAnswerSettlesThatKeepersComplaintAlone();
        eachKindShowsItsOwn();
        liarsShowOneMoreToTheNextSeat();
        oneMoreThanTheGreatestIs0();
        aSettledComplaintGivesTheRightShare();
        withoutAComplaintTheWrongShareStays();
        whoHasNotDealtIsRefused();
        whoWasSilentIsRefused();
        theLastPlaceTakesAnAnswer();
        aFullBoardTakesNoAnswer();
        aFullBoardTakesNoAnswerThatShowsNothing();
        CHECK.end();
    }

    private static void answersArePostedWithoutAComplaint() {
        KeyCustody x = Check.dealt(0);
        for (int keeper = 1; keeper <= 7; keeper++) {
            CHECK.due("answer(1, " + keeper + ")", x.answer(1, keeper), false);
            answerIs(x, keeper, keeper, Check.SENT[keeper]);
        }
        CHECK.due("about(1)", x.about(1), 8);
        CHECK.due("about(2)", x.about(2), 0);
        CHECK.due("about(3)", x.about(3), 0);
    }

    private static void answerIs(KeyCustody x, int n, int keeper, int number) {
        int[] wants = {3, 1, keeper, number, 1, 0, 0, 0, 0};
        for (int what = 0; what <= 8; what++) {
            CHECK.due("post(" + n + ", " + what + ") of an answer", x.post(n, what), wants[what]);
        }
    }

    private static void complaintsAreSettledOnce() {
        KeyCustody x = Check.dealt(0);
        x.fault(4, 4);
        x.look(4);
        CHECK.due("answer", x.answer(1, 4), true);
        CHECK.due("about(3)", x.about(3), 1);
        CHECK.due("the same answer again", x.answer(1, 4), false);
        CHECK.due("about(2) behind the second", x.about(2), 1);
        CHECK.due("about(3) behind the second", x.about(3), 1);
        CHECK.due("about(1): it is posted, too", x.about(1), 4);
        answerIs(x, 3, 4, 93);
    }

    private static void anAnswerSettlesThatKeepersComplaintAlone() {
        KeyCustody x = Check.founded();
        x.fault(4, 4);
        x.fault(5, 4);
        x.deal(1, 3, 4, 5);
        x.deal(2, 3, 4, 5);
        x.look(4);
        x.look(5);
        CHECK.due("answer to one that didn't complain", x.answer(1, 3), false);
        CHECK.due("answer(1, 4)", x.answer(1, 4), true);
        CHECK.due("about(3)", x.about(3), 1);
        CHECK.due("answer(2, 5)", x.answer(2, 5), true);
        CHECK.due("about(3) of four", x.about(3), 2);
        CHECK.due("answer(1, 5)", x.answer(1, 5), true);
        CHECK.due("close() with one of 2 open", x.close(), 1);
    }

    private static void eachKindShowsItsOwn() {
        kindShows(0, 62, 79);
        kindShows(2, 63, 79);
        kindShows(3, 63, 80);
        kindShows(4, 62, 79);
        kindShows(5, 62, 79);
        kindShows(6, KeyCustody.NONE, KeyCustody.NONE);
    }

    /** What seat 1 shows to an accuser at the next seat, and to one at the seat behind it. */
    private static void kindShows(int kind, int toNext, int toOther) {
        KeyCustody x = Check.dealt(kind);
        x.fault(2, 4);
        x.fault(3, 4);
        x.look(2);
        x.look(3);
        boolean lies = kind == 2;
        boolean shows = toNext != KeyCustody.NONE;
        CHECK.due("answer(1, 2) with kind " + kind, x.answer(1, 2), shows && !lies);
        CHECK.due("answer(1, 3) with kind " + kind, x.answer(1, 3), shows);
        CHECK.due("about(1) with kind " + kind, x.about(1), shows ? 5 : 3);
        if (shows) {
            answerIs(x, 3, 2, toNext);
            answerIs(x, 4, 3, toOther);
        }
        boolean accepted = shows && !lies && kind != 3;
        CHECK.due("close() with kind " + kind, x.close(), accepted ? 1 : 0);
        CHECK.due("fits(2) with kind " + kind, x.fits(2), true);
        CHECK.due("share(2) with kind " + kind, x.share(2), accepted ? 93 : 31);
    }

    private static void liarsShowOneMoreToTheNextSeat() {
        for (int dealer = 1; dealer <= 7; dealer++) {
            int next = dealer == 7 ? 1 : dealer + 1;
            KeyCustody x = Check.dealt(dealer, 2);
            for (int keeper = 1; keeper <= 7; keeper++) {
                CHECK.due("answer(" + dealer + ", " + keeper + ")", x.answer(dealer, keeper), false);
                int want = keeper == next ? Check.SENT[keeper] + 1 : Check.SENT[keeper];
                CHECK.due("what " + dealer + " shows to " + keeper, x.post(keeper, 3), want);
            }
        }
    }

    /** 50 times 2 is the greatest number. */
    private static void oneMoreThanTheGreatestIs0() {
        KeyCustody x = Check.founded();
        x.fault(1, 2);
        x.deal(1, 50, 0, 0);
        x.look(2);
        CHECK.due("answer(1, 2)", x.answer(1, 2), false);
        answerIs(x, 2, 2, 0);
        KeyCustody shifted = Check.founded();
        shifted.fault(1, 3);
        shifted.fault(2, 4);
        shifted.deal(1, 50, 0, 0);
        shifted.look(2);
        CHECK.due("answer(1, 2) of a shifted one", shifted.answer(1, 2), true);
        answerIs(shifted, 2, 2, 0);
    }

    private static void aSettledComplaintGivesTheRightShare() {
        KeyCustody x = Check.dealt(5);
        x.look(2);
        CHECK.due("answer(1, 2)", x.answer(1, 2), true);
        CHECK.due("close()", x.close(), 1);
        CHECK.due("share(2)", x.share(2), 93);
        CHECK.due("fits(2)", x.fits(2), true);
    }

    private static void withoutAComplaintTheWrongShareStays() {
        KeyCustody x = Check.dealt(5);
        CHECK.due("answer ahead of the look", x.answer(1, 2), false);
        CHECK.due("look(2)", x.look(2), 1);
        CHECK.due("answer behind the look", x.answer(1, 2), true);
        KeyCustody unseen = Check.dealt(5);
        unseen.answer(1, 2);
        CHECK.due("close()", unseen.close(), 1);
        CHECK.due("share(2)", unseen.share(2), 94);
        CHECK.due("fits(2)", unseen.fits(2), false);
    }

    private static KeyCustody nextWeek(int posts) {
        KeyCustody x = Check.boardWith(posts);
        x.close();
        return x;
    }

    private static void whoHasNotDealtIsRefused() {
        isRefused("nobody dealt", Check::founded, 1);
        isRefused("another dealt", () -> Check.dealt(0), 2);
        isRefused("within a week", Check::busy, 4);
        isRefused("dealt in the week before", () -> nextWeek(1), 1);
        isRefused("another dealt, on a full board", () -> Check.boardWith(250), 2);
        isRefused("dealt in the week before, on a full board", () -> nextWeek(250), 1);
    }

    private static void whoWasSilentIsRefused() {
        isRefused("silently", () -> Check.dealt(1), 1);
        isRefused("silently within a week", Check::busy, 6);
        isRefused("silently, on a full board", AnswerTest::silentAhead, 3);
    }

    private static void isRefused(String why, Supplier<KeyCustody> maker, int dealer) {
        for (int keeper : new int[] {1, 2, 7}) {
            CHECK.refused(why, Check.WRONG, maker, "answer", dealer, keeper);
        }
    }

    private static KeyCustody silentAhead() {
        KeyCustody x = Check.boardWith(249);
        x.fault(3, 1);
        x.deal(3, 1, 1, 1);
        x.answer(1, 2);
        return x;
    }

    /** Seat 1 has dealt, 4 has complained of it; the board has that many posts. */
    private static KeyCustody accused(int posts) {
        KeyCustody x = Check.boardWith(posts - 1);
        x.fault(4, 4);
        x.look(4);
        return x;
    }

    private static void theLastPlaceTakesAnAnswer() {
        KeyCustody x = accused(249);
        CHECK.due("the answer in the last place", x.answer(1, 4), true);
        CHECK.due("about(1)", x.about(1), 250);
        CHECK.due("about(3)", x.about(3), 1);
        answerIs(x, 249, 4, 93);
        CHECK.due("close()", x.close(), 1);
    }

    private static void aFullBoardTakesNoAnswer() {
        CHECK.refused("one that would settle", Check.NOT_NOW, () -> accused(250), "answer", 1, 4);
        CHECK.refused("without a complaint", Check.NOT_NOW, () -> accused(250), "answer", 1, 2);
        CHECK.refused("of one to itself", Check.NOT_NOW, () -> Check.boardWith(250), "answer", 1, 1);
        KeyCustody x = accused(250);
        Calls.outcome(x, "answer", 1, 4);
        CHECK.due("about(3)", x.about(3), 0);
        CHECK.due("close() with an open complaint", x.close(), 0);
    }

    /** Seat 3 has dealt stubbornly, 4 has complained of it. */
    private static KeyCustody stubborn(int posts) {
        KeyCustody x = Check.boardWith(posts - 2);
        x.fault(3, 6);
        x.deal(3, 1, 1, 1);
        x.look(4);
        return x;
    }

    private static void aFullBoardTakesNoAnswerThatShowsNothing() {
        KeyCustody x = stubborn(249);
        CHECK.due("a stubborn one on a board with room", x.answer(3, 4), false);
        CHECK.due("about(1): nothing is posted", x.about(1), 249);
        CHECK.due("about(3)", x.about(3), 0);
        CHECK.refused("stubborn", Check.NOT_NOW, () -> stubborn(250), "answer", 3, 4);
        CHECK.refused("stubborn, without a complaint", Check.NOT_NOW, () -> stubborn(250), "answer", 3, 1);
    }
}
