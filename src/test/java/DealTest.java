/** Promise 5. */
public final class DealTest {
    private static final Check CHECK = new Check();

    public static void main(String[] args) {
        aDealingIsPostedAndSent();
        silentOnesPostNothing();
        shiftedOnesCommitToOne();
        cheatersSendOneMoreToTheNextSeat();
        whatIsNoNumberIsRefused();
        nobodyDealsTwice();
        aFullBoardTakesNoDealing();
        CHECK.end();
    }

    private static void aDealingIsPostedAndSent() {
        KeyCustody x = Check.dealt(0);
        CHECK.due("about(1)", x.about(1), 1);
        CHECK.due("about(4)", x.about(4), 1);
        postsAre(x, 0, new int[] {1, 1, 0, 0, 1, 1, 527, 343, 100});
        int[] values = {0, 12, 62, 79, 93, 33, 30, 13};
        x.close();
        for (int seat = 1; seat <= 7; seat++) {
            int want = (Check.FIRST_SHARES[seat] + values[seat]) % 101;
            CHECK.due("share(" + seat + ")", x.share(seat), want);
        }
        x.wipe(5);
        x.deal(5, 100, 0, 0);
        CHECK.due("about(4) of a wiped dealer", x.about(4), 16);
    }

    private static void postsAre(KeyCustody x, int n, int[] wants) {
        for (int what = 0; what < wants.length; what++) {
            CHECK.due("post(" + n + ", " + what + ")", x.post(n, what), wants[what]);
        }
    }

    private static void silentOnesPostNothing() {
        KeyCustody x = Check.dealt(1);
        CHECK.due("about(1)", x.about(1), 0);
        CHECK.due("about(4)", x.about(4), 0);
        CHECK.refused("a second silent dealing", Check.NOT_NOW, () -> x.deal(1, 3, 4, 5));
        CHECK.due("close()", x.close(), 0);
        CHECK.due("share(1)", x.share(1), 60);
        x.deal(1, 3, 4, 5);
        CHECK.due("about(4) in the next week", x.about(4), 1);
    }

    private static void shiftedOnesCommitToOne() {
        KeyCustody x = Check.dealt(3);
        postsAre(x, 0, new int[] {1, 1, 0, 0, 1, 64, 527, 343, 100});
        CHECK.due("look(2)", x.look(2), 0);
        x.answer(1, 2);
        CHECK.due("what a shifted one shows", x.post(1, 3), 63);
    }

    private static void cheatersSendOneMoreToTheNextSeat() {
        for (int kind = 0; kind <= 6; kind++) {
            boolean cheats = kind == 2 || kind == 5 || kind == 6;
            KeyCustody x = Check.dealt(kind);
            CHECK.due("look(2) with kind " + kind, x.look(2), cheats ? 1 : 0);
            CHECK.due("look(3) with kind " + kind, x.look(3), 0);
            CHECK.due("look(7) with kind " + kind, x.look(7), 0);
            KeyCustody last = Check.founded();
            last.fault(7, kind);
            last.deal(7, 3, 4, 5);
            CHECK.due("look(1) of 7 with kind " + kind, last.look(1), cheats ? 1 : 0);
            CHECK.due("look(6) of 7 with kind " + kind, last.look(6), 0);
        }
        KeyCustody unseen = Check.dealt(2);
        CHECK.due("close() without a look", unseen.close(), 1);
        CHECK.due("share(2) of one more", unseen.share(2), 94);
        CHECK.due("share(3)", unseen.share(3), 76);
        KeyCustody round = Check.founded();
        round.fault(1, 2);
        round.deal(1, 50, 0, 0);
        round.answer(1, 2);
        CHECK.due("one more than 100", round.post(1, 3), 0);
    }

    private static void whatIsNoNumberIsRefused() {
        KeyCustody x = Check.dealt(0);
        for (int no : new int[] {-1, 101, Integer.MIN_VALUE, Integer.MAX_VALUE}) {
            CHECK.refused("deal with b " + no, Check.WRONG, () -> x.deal(2, no, 1, 1));
            CHECK.refused("deal with c " + no, Check.WRONG, () -> x.deal(2, 1, no, 1));
            CHECK.refused("deal with d " + no, Check.WRONG, () -> x.deal(2, 1, 1, no));
            CHECK.refused("a second deal with b " + no, Check.WRONG, () -> x.deal(1, no, 1, 1));
        }
        CHECK.due("about(1)", x.about(1), 1);
        CHECK.due("about(4)", x.about(4), 1);
        x.deal(2, 0, 0, 100);
        CHECK.due("about(4) behind a right one", x.about(4), 3);
    }

    private static void nobodyDealsTwice() {
        KeyCustody x = Check.dealt(0);
        CHECK.refused("a second dealing", Check.NOT_NOW, () -> x.deal(1, 1, 1, 1));
        CHECK.due("about(1)", x.about(1), 1);
        CHECK.due("close()", x.close(), 1);
        CHECK.due("share(1) by the first dealing", x.share(1), 72);
        x.deal(1, 1, 1, 1);
        CHECK.due("the week of the next dealing", x.post(1, 4), 2);
    }

    private static void aFullBoardTakesNoDealing() {
        KeyCustody x = Check.boardWith(249);
        x.deal(2, 1, 1, 1);
        CHECK.due("about(1) with the last dealing", x.about(1), 250);
        CHECK.refused("deal on a full board", Check.NOT_NOW, () -> x.deal(3, 1, 1, 1));
        CHECK.refused("deal with a wrong number", Check.WRONG, () -> x.deal(3, 1, 1, 101));
        x.fault(4, 1);
        CHECK.refused("a silent deal on a full board", Check.NOT_NOW, () -> x.deal(4, 1, 1, 1));
        x.fault(4, 0);
        CHECK.due("about(4)", x.about(4), 3);
        CHECK.due("about(1)", x.about(1), 250);
    }
}
