/** Promise 5. */
public final class DealTest {
    private static final Check CHECK = new Check();

    public static void main(String[] args) {
        aDealingIsPostedAndSent();
        allSevenMayDeal();
        silentOnesPostAndSendNothing();
        shiftedOnesCommitToOne();
        cheatersSendOneMoreToTheNextSeat();
        oneMoreThanTheGreatestIs0();
        numbersAreFrom0ToQLess1();
        whatIsNoNumberIsRefused();
        nobodyDealsTwiceInAWeek();
        aFullBoardTakesNoDealing();
        aFullBoardTakesNoSilentDealing();
        CHECK.end();
    }

    private static void aDealingIsPostedAndSent() {
        KeyCustody x = Check.dealt(0);
        CHECK.due("about(1)", x.about(1), 1);
        CHECK.due("about(4)", x.about(4), 1);
        postIs(x, 0, 1, 1, 0, 0, 1, 1, 527, 343, 100);
        x.close();
        for (int seat = 1; seat <= 7; seat++) {
            int want = (Check.FIRST_SHARES[seat] + Check.SENT[seat]) % 101;
            CHECK.due("share(" + seat + ")", x.share(seat), want);
        }
        x.wipe(5);
        x.deal(5, 100, 0, 0);
        CHECK.due("about(4) of a wiped dealer", x.about(4), 16);
    }

    private static void postIs(KeyCustody x, int n, int... wants) {
        for (int what = 0; what < wants.length; what++) {
            CHECK.due("post(" + n + ", " + what + ")", x.post(n, what), wants[what]);
        }
    }

    private static void allSevenMayDeal() {
        KeyCustody x = Check.founded();
        for (int seat = 7; seat >= 1; seat--) {
            x.deal(seat, 1, 2, 3);
            CHECK.due("about(4) behind the dealing of " + seat, x.about(4), 128 - (1 << (seat - 1)));
            CHECK.due("by whom the last post is", x.post(7 - seat, 1), seat);
        }
    }

    private static void silentOnesPostAndSendNothing() {
        KeyCustody x = Check.dealt(1);
        CHECK.due("about(1)", x.about(1), 0);
        CHECK.due("about(4)", x.about(4), 0);
        x.fault(2, 4);
        CHECK.due("look(2) of an accuser", x.look(2), 0);
        CHECK.due("close()", x.close(), 0);
        for (int seat = 1; seat <= 7; seat++) {
            CHECK.due("share(" + seat + ")", x.share(seat), Check.FIRST_SHARES[seat]);
        }
    }

    private static void shiftedOnesCommitToOne() {
        KeyCustody x = Check.dealt(3);
        postIs(x, 0, 1, 1, 0, 0, 1, 64, 527, 343, 100);
        CHECK.due("look(2)", x.look(2), 0);
        x.answer(1, 2);
        CHECK.due("what a shifted one shows", x.post(1, 3), 63);
    }

    private static void cheatersSendOneMoreToTheNextSeat() {
        for (int kind : new int[] {2, 5, 6}) {
            for (int dealer = 1; dealer <= 7; dealer++) {
                int next = dealer == 7 ? 1 : dealer + 1;
                KeyCustody x = Check.dealt(dealer, kind);
                CHECK.due("close() without a look", x.close(), 1 << (dealer - 1));
                for (int seat = 1; seat <= 7; seat++) {
                    int right = Check.FIRST_SHARES[seat] + Check.SENT[seat];
                    int want = (seat == next ? right + 1 : right) % 101;
                    CHECK.due("share(" + seat + ") by " + dealer + " of kind " + kind, x.share(seat), want);
                }
            }
        }
    }

    /** 50 times 2 is the greatest number. */
    private static void oneMoreThanTheGreatestIs0() {
        for (int kind : new int[] {2, 3, 5, 6}) {
            KeyCustody x = Check.founded();
            x.fault(1, kind);
            x.deal(1, 50, 0, 0);
            CHECK.due("look(2) with kind " + kind, x.look(2), kind == 3 ? 0 : 1);
            KeyCustody unseen = Check.founded();
            unseen.fault(1, kind);
            unseen.deal(1, 50, 0, 0);
            CHECK.due("close() with kind " + kind, unseen.close(), kind == 3 ? 0 : 1);
            CHECK.due("share(2) with kind " + kind, unseen.share(2), 31);
        }
    }

    private static void numbersAreFrom0ToQLess1() {
        KeyCustody x = Check.founded();
        x.deal(1, 0, 0, 0);
        postIs(x, 0, 1, 1, 0, 0, 1, 1, 1, 1, 1);
        x.deal(2, 100, 0, 0);
        postIs(x, 1, 1, 2, 0, 0, 1, 1, 313, 1, 1);
        x.deal(3, 0, 100, 0);
        postIs(x, 2, 1, 3, 0, 0, 1, 1, 1, 313, 1);
        x.deal(4, 0, 0, 100);
        postIs(x, 3, 1, 4, 0, 0, 1, 1, 1, 1, 313);
        x.deal(5, 100, 100, 100);
        postIs(x, 4, 1, 5, 0, 0, 1, 1, 313, 313, 313);
        CHECK.due("close()", x.close(), 31);
        CHECK.due("share(1) of six times 100", x.share(1), 54);
        CHECK.due("fits(1)", x.fits(1), true);
    }

    private static void whatIsNoNumberIsRefused() {
        for (int no : new int[] {-1, 101, Integer.MIN_VALUE, Integer.MAX_VALUE}) {
            isRefused("the first one", Check::founded, 2, no);
            isRefused("within a week", Check::busy, 2, no);
            isRefused("a second one", () -> Check.dealt(0), 1, no);
            isRefused("a silent one", DealTest::silent, 1, no);
            isRefused("on a full board", () -> Check.boardWith(250), 3, no);
        }
    }

    private static void isRefused(String when, java.util.function.Supplier<KeyCustody> maker, int seat, int no) {
        CHECK.refused(when, Check.WRONG, maker, "deal", seat, no, 1, 1);
        CHECK.refused(when, Check.WRONG, maker, "deal", seat, 1, no, 1);
        CHECK.refused(when, Check.WRONG, maker, "deal", seat, 1, 1, no);
    }

    private static KeyCustody silent() {
        KeyCustody x = Check.founded();
        x.fault(1, 1);
        return x;
    }

    private static void nobodyDealsTwiceInAWeek() {
        for (int kind = 0; kind <= 6; kind++) {
            int dealt = kind;
            String why = "a second one of kind " + kind;
            CHECK.refused(why, Check.NOT_NOW, () -> Check.dealt(dealt), "deal", 1, 1, 1, 1);
            CHECK.refused(why + " behind others", Check.NOT_NOW, () -> dealtAheadOfOthers(dealt), "deal", 1, 1, 1, 1);
            KeyCustody x = Check.dealt(kind);
            x.close();
            int posts = x.about(1);
            x.deal(1, 1, 1, 1);
            CHECK.due("about(4) in the next week", x.about(4), 1);
            CHECK.due("the week of the next dealing", x.post(posts, 4), 2);
        }
    }

    /** Of the others, one deals aloud, the last silently. */
    private static KeyCustody dealtAheadOfOthers(int kind) {
        KeyCustody x = Check.dealt(kind);
        x.fault(3, 1);
        x.deal(2, 1, 1, 1);
        x.deal(3, 1, 1, 1);
        return x;
    }

    private static void aFullBoardTakesNoDealing() {
        KeyCustody x = Check.boardWith(249);
        x.deal(2, 1, 1, 1);
        CHECK.due("about(1) with the last dealing", x.about(1), 250);
        CHECK.due("post(249, 1)", x.post(249, 1), 2);
        CHECK.due("about(4)", x.about(4), 3);
        CHECK.refused("on a full board", Check.NOT_NOW, () -> Check.boardWith(250), "deal", 2, 1, 1, 1);
        CHECK.refused("on a full board, a second one", Check.NOT_NOW, () -> Check.boardWith(250), "deal", 1, 1, 1, 1);
        CHECK.refused("in the next week", Check.NOT_NOW, DealTest::fullInTheNextWeek, "deal", 1, 1, 1, 1);
    }

    private static KeyCustody fullInTheNextWeek() {
        KeyCustody x = Check.boardWith(250);
        x.close();
        return x;
    }

    private static KeyCustody silentAt(int posts) {
        KeyCustody x = Check.boardWith(posts);
        x.fault(4, 1);
        return x;
    }

    private static void aFullBoardTakesNoSilentDealing() {
        KeyCustody x = silentAt(249);
        x.deal(4, 1, 1, 1);
        CHECK.due("about(1) behind a silent dealing", x.about(1), 249);
        x.deal(5, 1, 1, 1);
        CHECK.due("about(4) behind another", x.about(4), 17);
        CHECK.refused("silent on a full board", Check.NOT_NOW, () -> silentAt(250), "deal", 4, 1, 1, 1);
        KeyCustody still = silentAt(250);
        Calls.outcome(still, "deal", 4, 1, 1, 1);
        still.fault(4, 0);
        CHECK.due("about(6): who was refused has not dealt", still.about(6), 0);
    }
}
