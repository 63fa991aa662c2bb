/** Promise 7. */
public final class AnswerTest {
    private static final Check CHECK = new Check();

    public static void main(String[] args) {
        answersArePostedWithoutAComplaint();
        complaintsAreSettledOnce();
        eachKindShowsItsOwn();
        withoutAComplaintTheWrongShareStays();
        whoHasNotDealtIsRefused();
        aFullBoardTakesNoAnswer();
        CHECK.end();
    }

    private static void answersArePostedWithoutAComplaint() {
        KeyCustody x = Check.dealt(0);
        CHECK.due("answer(1, 7)", x.answer(1, 7), false);
        answerIs(x, 1, 7, 13);
        CHECK.due("answer(1, 1)", x.answer(1, 1), false);
        answerIs(x, 2, 1, 12);
        CHECK.due("about(3)", x.about(3), 0);
    }

    private static void answerIs(KeyCustody x, int n, int keeper, int number) {
        CHECK.due("kind of post " + n, x.post(n, 0), 3);
        CHECK.due("who answers in post " + n, x.post(n, 1), 1);
        CHECK.due("to whom in post " + n, x.post(n, 2), keeper);
        CHECK.due("number of post " + n, x.post(n, 3), number);
    }

    private static void complaintsAreSettledOnce() {
        KeyCustody x = Check.dealt(0);
        x.fault(4, 4);
        x.look(4);
        CHECK.due("answer to another", x.answer(1, 5), false);
        CHECK.due("answer", x.answer(1, 4), true);
        CHECK.due("about(3)", x.about(3), 1);
        CHECK.due("the same answer again", x.answer(1, 4), false);
        CHECK.due("about(3) behind the second", x.about(3), 1);
        CHECK.due("about(1): it is posted, too", x.about(1), 5);
    }

    private static void eachKindShowsItsOwn() {
        kindShows(0, 62, 79);
        kindShows(2, 63, 79);
        kindShows(3, 63, 80);
        kindShows(4, 62, 79);
        kindShows(5, 62, 79);
        kindShows(6, KeyCustody.NONE, KeyCustody.NONE);
    }

    /** What seat 1 shows to an accuser at the next seat, and to one at the seat behind it. */
    private static void kindShows(int kind, int toNext, int toOther) {
        KeyCustody x = Check.dealt(kind);
        x.fault(2, 4);
        x.fault(3, 4);
        x.look(2);
        x.look(3);
        boolean lies = kind == 2;
        boolean shows = toNext != KeyCustody.NONE;
        CHECK.due("answer(1, 2) with kind " + kind, x.answer(1, 2), shows && !lies);
        CHECK.due("answer(1, 3) with kind " + kind, x.answer(1, 3), shows);
        CHECK.due("about(1) with kind " + kind, x.about(1), shows ? 5 : 3);
        if (shows) {
            answerIs(x, 3, 2, toNext);
            answerIs(x, 4, 3, toOther);
        }
        boolean accepted = shows && !lies && kind != 3;
        CHECK.due("close() with kind " + kind, x.close(), accepted ? 1 : 0);
        CHECK.due("fits(2) with kind " + kind, x.fits(2), true);
        CHECK.due("share(2) with kind " + kind, x.share(2), accepted ? 93 : 31);
    }

    private static void withoutAComplaintTheWrongShareStays() {
        KeyCustody x = Check.dealt(5);
        CHECK.due("answer ahead of the look", x.answer(1, 2), false);
        CHECK.due("look(2)", x.look(2), 1);
        KeyCustody unseen = Check.dealt(5);
        unseen.answer(1, 2);
        CHECK.due("close()", unseen.close(), 1);
        CHECK.due("share(2)", unseen.share(2), 94);
        CHECK.due("fits(2)", unseen.fits(2), false);
    }

    private static void whoHasNotDealtIsRefused() {
        KeyCustody x = Check.dealt(0);
        CHECK.refused("answer of one that didn't deal", Check.WRONG, () -> x.answer(2, 1));
        x.fault(3, 1);
        x.deal(3, 1, 1, 1);
        CHECK.refused("answer of a silent one", Check.WRONG, () -> x.answer(3, 1));
        x.close();
        CHECK.refused("answer in the next week", Check.WRONG, () -> x.answer(1, 2));
        CHECK.due("about(1)", x.about(1), 1);
    }

    private static void aFullBoardTakesNoAnswer() {
        KeyCustody x = Check.boardWith(248);
        x.fault(3, 6);
        x.deal(3, 1, 1, 1);
        CHECK.due("a stubborn one on a board with room", x.answer(3, 1), false);
        CHECK.due("look(4)", x.look(4), 1);
        CHECK.due("about(1)", x.about(1), 250);
        CHECK.refused("answer on a full board", Check.NOT_NOW, () -> x.answer(1, 2));
        CHECK.refused("a stubborn answer to the next seat", Check.NOT_NOW, () -> x.answer(3, 4));
        CHECK.refused("a stubborn answer", Check.NOT_NOW, () -> x.answer(3, 1));
        CHECK.refused("answer of one that didn't deal", Check.WRONG, () -> x.answer(2, 1));
        KeyCustody accused = Check.boardWith(249);
        accused.fault(4, 4);
        accused.look(4);
        CHECK.refused("an answer that would settle", Check.NOT_NOW, () -> accused.answer(1, 4));
        CHECK.due("about(3)", accused.about(3), 0);
        CHECK.due("close()", accused.close(), 0);
    }
}
