/** Promises 9 and 10: wipe and recover. */
public final class RecoverTest {
    private static final Check CHECK = new Check();

    public static void main(String[] args) {
        aWipedShareIsLost();
        aLostShareIsGotBack();
        wrongSharesDoNotHelp();
        fewerThanFourAreTooFew();
        CHECK.end();
    }

    private static void aWipedShareIsLost() {
        KeyCustody x = Check.founded();
        for (int seat = 1; seat <= 7; seat++) {
            int wiped = seat;
            x.wipe(seat);
            CHECK.due("share(" + seat + ")", x.share(seat), KeyCustody.NONE);
            CHECK.due("fits(" + seat + ")", x.fits(seat), false);
            CHECK.due("about(5)", x.about(5), (1 << seat) - 1);
            CHECK.refused("wipe(" + seat + ") again", Check.NOT_NOW, () -> x.wipe(wiped));
        }
        CHECK.due("element(4)", x.element(4), 1);
        CHECK.due("sum(0)", x.sum(0), 339);
    }

    private static void aLostShareIsGotBack() {
        int[] helpers = {0, 30, 29, 27, 23, 15, 15, 15};
        for (int seat = 1; seat <= 7; seat++) {
            KeyCustody x = Check.founded();
            x.wipe(seat);
            CHECK.due("recover(" + seat + ")", x.recover(seat), helpers[seat]);
            CHECK.due("share(" + seat + ")", x.share(seat), Check.FIRST_SHARES[seat]);
            CHECK.due("fits(" + seat + ")", x.fits(seat), true);
            CHECK.due("about(5)", x.about(5), 0);
            x.wipe(seat);
        }
        KeyCustody x = Check.founded();
        CHECK.refused("recover of one that isn't wiped", Check.NOT_NOW, () -> x.recover(1));
    }

    private static void wrongSharesDoNotHelp() {
        KeyCustody x = Check.dealt(2);
        x.close();
        CHECK.due("fits(2)", x.fits(2), false);
        x.wipe(4);
        CHECK.due("recover(4)", x.recover(4), 1 + 4 + 16 + 32);
        CHECK.due("share(4)", x.share(4), 93);
        x.wipe(2);
        CHECK.due("recover(2)", x.recover(2), 1 + 4 + 8 + 16);
        CHECK.due("share(2) is right now", x.share(2), 93);
        x.wipe(1);
        CHECK.due("recover(1), with 2 as a helper", x.recover(1), 30);
    }

    private static void fewerThanFourAreTooFew() {
        KeyCustody x = Check.founded();
        x.wipe(1);
        x.wipe(2);
        x.wipe(3);
        x.wipe(4);
        CHECK.refused("recover(1) with three", Check.NOT_NOW, () -> x.recover(1));
        CHECK.due("share(1)", x.share(1), KeyCustody.NONE);
        CHECK.due("about(5)", x.about(5), 15);
        KeyCustody four = Check.founded();
        four.wipe(7);
        four.wipe(2);
        four.wipe(5);
        CHECK.due("recover(5) with four", four.recover(5), 1 + 4 + 8 + 32);
        CHECK.due("recover(7) with five", four.recover(7), 1 + 4 + 8 + 16);
        KeyCustody wrong = Check.dealt(2);
        wrong.close();
        wrong.wipe(1);
        wrong.wipe(3);
        wrong.wipe(4);
        CHECK.refused("recover(1) with three and a wrong one", Check.NOT_NOW, () -> wrong.recover(1));
    }
}
