/** Promises 9 and 10: wipe and recover. */
public final class RecoverTest {
    private static final Check CHECK = new Check();

    public static void main(String[] args) {
        aWipedShareIsLost();
        nobodyIsWipedTwice();
        aLostShareIsGotBack();
        whoIsNotWipedIsRefused();
        theFourLeastSeatsHelp();
        fewerThanFourAreTooFew();
        wrongSharesDoNotHelp();
        threeBesideAWrongOneAreTooFew();
        aRecoveredOneHelps();
        CHECK.end();
    }

    private static KeyCustody wiped(int... seats) {
        KeyCustody x = Check.founded();
        for (int seat : seats) {
            x.wipe(seat);
        }
        return x;
    }

    private static void aWipedShareIsLost() {
        KeyCustody x = Check.founded();
        for (int seat = 1; seat <= 7; seat++) {
            x.wipe(seat);
            CHECK.due("share(" + seat + ")", x.share(seat), KeyCustody.NONE);
            CHECK.due("fits(" + seat + ")", x.fits(seat), false);
            CHECK.due("about(5)", x.about(5), (1 << seat) - 1);
        }
        CHECK.due("element(4)", x.element(4), 1);
        CHECK.due("sum(0)", x.sum(0), 339);
    }

    private static void nobodyIsWipedTwice() {
        for (int seat = 1; seat <= 7; seat++) {
            int lost = seat;
            CHECK.refused("a second time", Check.NOT_NOW, () -> wiped(lost), "wipe", seat);
            KeyCustody x = wiped(seat);
            x.recover(seat);
            x.wipe(seat);
            CHECK.due("about(5), wiped behind a recovery", x.about(5), 1 << (seat - 1));
        }
        CHECK.refused("with all wiped", Check.NOT_NOW, () -> wiped(1, 2, 3, 4, 5, 6, 7), "wipe", 4);
        CHECK.refused("wiped in the week before", Check.NOT_NOW, RecoverTest::wipedAWeekAgo, "wipe", 4);
    }

    private static KeyCustody wipedAWeekAgo() {
        KeyCustody x = wiped(4);
        x.close();
        return x;
    }

    private static void aLostShareIsGotBack() {
        int[] helpers = {0, 30, 29, 27, 23, 15, 15, 15};
        for (int seat = 1; seat <= 7; seat++) {
            KeyCustody x = wiped(seat);
            CHECK.due("recover(" + seat + ")", x.recover(seat), helpers[seat]);
            CHECK.due("about(5)", x.about(5), 0);
            CHECK.alike("behind recover(" + seat + ")", x, Check.founded());
        }
    }

    private static void whoIsNotWipedIsRefused() {
        for (int seat = 1; seat <= 7; seat++) {
            CHECK.refused("not wiped", Check.NOT_NOW, Check::founded, "recover", seat);
        }
        CHECK.refused("another is wiped", Check.NOT_NOW, () -> wiped(3), "recover", 2);
        CHECK.refused("wrong, but not wiped", Check.NOT_NOW, RecoverTest::wrongAt2, "recover", 2);
        CHECK.refused("a second time", Check.NOT_NOW, RecoverTest::recovered, "recover", 3);
    }

    private static KeyCustody recovered() {
        KeyCustody x = wiped(3);
        x.recover(3);
        return x;
    }

    private static void theFourLeastSeatsHelp() {
        CHECK.due("recover(1) with six", wiped(1).recover(1), 2 + 4 + 8 + 16);
        CHECK.due("recover(1) with five", wiped(1, 2).recover(1), 4 + 8 + 16 + 32);
        CHECK.due("recover(7) with five", wiped(7, 1).recover(7), 2 + 4 + 8 + 16);
        CHECK.due("recover(1) with the last four", wiped(1, 2, 3).recover(1), 8 + 16 + 32 + 64);
        CHECK.due("recover(7) with the first four", wiped(5, 6, 7).recover(7), 1 + 2 + 4 + 8);
    }

    private static void fewerThanFourAreTooFew() {
        KeyCustody four = wiped(7, 2, 5);
        CHECK.due("recover(5) with four", four.recover(5), 1 + 4 + 8 + 32);
        CHECK.due("share(5)", four.share(5), 82);
        CHECK.refused("with three", Check.NOT_NOW, () -> wiped(1, 2, 3, 4), "recover", 1);
        CHECK.refused("with three", Check.NOT_NOW, () -> wiped(4, 5, 6, 7), "recover", 7);
        CHECK.refused("with none", Check.NOT_NOW, () -> wiped(1, 2, 3, 4, 5, 6, 7), "recover", 7);
        CHECK.refused("with three and the key 0", Check.NOT_NOW, RecoverTest::threeWithTheKey0, "recover", 1);
    }

    /** With the key 0, a seat 0 that there isn't would fit the sums. */
    private static KeyCustody threeWithTheKey0() {
        KeyCustody x = Check.grouped();
        x.found(0, 5, 6, 7);
        for (int seat = 1; seat <= 4; seat++) {
            x.wipe(seat);
        }
        return x;
    }

    /** Seat 2 has a share of one more than the right one; seats 2 and 4 would have 93. */
    private static KeyCustody wrongAt2(int... lost) {
        KeyCustody x = Check.dealt(2);
        x.close();
        for (int seat : lost) {
            x.wipe(seat);
        }
        return x;
    }

    private static void wrongSharesDoNotHelp() {
        KeyCustody x = wrongAt2(4);
        CHECK.due("fits(2)", x.fits(2), false);
        CHECK.due("recover(4)", x.recover(4), 1 + 4 + 16 + 32);
        CHECK.due("share(4)", x.share(4), 93);
        KeyCustody last = wrongAt2(1, 3);
        CHECK.due("recover(1) with four and a wrong one", last.recover(1), 8 + 16 + 32 + 64);
        CHECK.due("share(1)", last.share(1), 72);
    }

    private static void threeBesideAWrongOneAreTooFew() {
        CHECK.refused("three and a wrong one", Check.NOT_NOW, () -> wrongAt2(1, 3, 4), "recover", 1);
        CHECK.due("recover(2), the wrong one itself wiped", wrongAt2(1, 3, 2).recover(2), 8 + 16 + 32 + 64);
    }

    private static void aRecoveredOneHelps() {
        KeyCustody x = wrongAt2(2);
        CHECK.due("recover(2)", x.recover(2), 1 + 4 + 8 + 16);
        CHECK.due("share(2) is right now", x.share(2), 93);
        x.wipe(1);
        CHECK.due("recover(1), with 2 as a helper", x.recover(1), 30);
    }
}
