/** Promise 8. */
public final class CloseTest {
    private static final Check CHECK = new Check();

    public static void main(String[] args) {
        acceptedDealersRenewSharesAndSums();
        openComplaintsAndShiftsAreNotAccepted();
        wipedKeepersAddNothing();
        theNextWeekIsEmpty();
        theKeyStaysOverManyWeeks();
        CHECK.end();
    }

    private static void acceptedDealersRenewSharesAndSums() {
        KeyCustody x = Check.dealt(0);
        CHECK.due("close()", x.close(), 1);
        int[] shares = {0, 72, 93, 76, 93, 14, 12, 58};
        int[] sums = {339, 498, 288, 247};
        for (int seat = 1; seat <= 7; seat++) {
            CHECK.due("share(" + seat + ")", x.share(seat), shares[seat]);
            CHECK.due("fits(" + seat + ")", x.fits(seat), true);
        }
        for (int j = 0; j <= 3; j++) {
            CHECK.due("sum(" + j + ")", x.sum(j), sums[j]);
        }
        CHECK.due("close() of an empty week", x.close(), 0);
        CHECK.due("share(1)", x.share(1), 72);
        CHECK.due("about(0)", x.about(0), 3);
    }

    private static void openComplaintsAndShiftsAreNotAccepted() {
        KeyCustody x = Check.founded();
        x.fault(2, 3);
        x.fault(3, 4);
        x.fault(4, 2);
        x.deal(1, 1, 1, 1);
        x.deal(2, 1, 1, 1);
        x.deal(3, 1, 1, 1);
        x.deal(4, 1, 1, 1);
        x.deal(7, 1, 1, 1);
        x.look(3);
        x.look(5);
        x.answer(1, 3);
        x.answer(2, 3);
        x.answer(4, 3);
        x.answer(4, 5);
        x.answer(7, 3);
        CHECK.due("about(2)", x.about(2), 6);
        CHECK.due("about(3)", x.about(3), 4);
        CHECK.due("close()", x.close(), 65);
        CHECK.due("sum(0)", x.sum(0), 339);
        CHECK.due("share(1) with two times 3", x.share(1), 66);
        CHECK.due("share(5)", x.fits(5), true);
        CHECK.due("reconstruct(127)", x.reconstruct(127), 42);
    }

    private static void wipedKeepersAddNothing() {
        KeyCustody x = Check.dealt(0);
        x.wipe(2);
        x.wipe(3);
        x.recover(3);
        CHECK.due("close()", x.close(), 1);
        CHECK.due("share(2)", x.share(2), KeyCustody.NONE);
        CHECK.due("share(3), got back ahead of it", x.share(3), 76);
        x.recover(2);
        CHECK.due("share(2), got back behind it", x.share(2), 93);
    }

    private static void theNextWeekIsEmpty() {
        KeyCustody x = Check.dealt(4);
        x.look(1);
        x.answer(1, 1);
        x.close();
        CHECK.due("about(0)", x.about(0), 2);
        CHECK.due("about(1): the board stays", x.about(1), 3);
        for (int what : new int[] {2, 3, 4, 6}) {
            CHECK.due("about(" + what + ")", x.about(what), 0);
        }
        CHECK.due("look(1)", x.look(1), 0);
        x.deal(1, 0, 0, 0);
        CHECK.due("close() without an old complaint", x.close(), 1);
        CHECK.due("the week of the second dealing", x.post(3, 4), 2);
    }

    private static void theKeyStaysOverManyWeeks() {
        KeyCustody x = new KeyCustody();
        x.group(2147286433, 32749, 503364241);
        x.found(32748, 32748, 32748, 32748);
        int key = x.sum(0);
        for (int week = 1; week <= 30; week++) {
            for (int seat = 1; seat <= 7; seat++) {
                x.deal(seat, 32748 - week, week * seat, 32748);
            }
            CHECK.due("close() of week " + week, x.close(), 127);
            CHECK.due("fits(7) behind week " + week, x.fits(7), true);
            CHECK.due("reconstruct behind week " + week, x.reconstruct(127 - 5), 32748);
        }
        CHECK.due("sum(0)", x.sum(0), key);
        CHECK.due("about(0)", x.about(0), 31);
    }
}
