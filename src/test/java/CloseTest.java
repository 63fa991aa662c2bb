/** Promise 8. */
public final class CloseTest {
    private static final Check CHECK = new Check();

    public static void main(String[] args) {
        withoutADealerNobodyIsAccepted();
        eachOneAndAllSevenAreAccepted();
        acceptedDealersRenewSharesAndSums();
        whoIsNotAcceptedChangesNothing();
        allComplaintsMustBeSettled();
        commitment0MustBe1();
        wipedKeepersAddNothing();
        sumsGoOnWithoutAnyShare();
        theNextWeekIsEmpty();
        theBoardAndTheWipedStay();
        aFullBoardStaysFull();
        theKeyStaysOverManyWeeks();
        CHECK.end();
    }

    private static void withoutADealerNobodyIsAccepted() {
        KeyCustody x = Check.founded();
        CHECK.due("close() of an empty week", x.close(), 0);
        CHECK.due("close() of a second one", x.close(), 0);
        CHECK.due("about(0)", x.about(0), 3);
        sharesAreAtFirst(x);
    }

    private static void sharesAreAtFirst(KeyCustody x) {
        for (int seat = 1; seat <= 7; seat++) {
            CHECK.due("share(" + seat + ")", x.share(seat), Check.FIRST_SHARES[seat]);
            CHECK.due("fits(" + seat + ")", x.fits(seat), true);
        }
        sumsAre(x, 339, 100, 330, 482);
    }

    private static void sumsAre(KeyCustody x, int... sums) {
        for (int j = 0; j <= 3; j++) {
            CHECK.due("sum(" + j + ")", x.sum(j), sums[j]);
        }
    }

    private static void eachOneAndAllSevenAreAccepted() {
        for (int seat = 1; seat <= 7; seat++) {
            CHECK.due("close() with the dealer " + seat, Check.dealt(seat, 0).close(), 1 << (seat - 1));
        }
        KeyCustody x = Check.founded();
        for (int seat = 1; seat <= 7; seat++) {
            x.deal(seat, 1, 1, 1);
        }
        CHECK.due("close() with seven", x.close(), 127);
        CHECK.due("share(1) with seven times 3", x.share(1), 81);
        CHECK.due("reconstruct(127)", x.reconstruct(127), 42);
    }

    private static void acceptedDealersRenewSharesAndSums() {
        KeyCustody x = Check.dealt(0);
        CHECK.due("close()", x.close(), 1);
        int[] shares = {0, 72, 93, 76, 93, 14, 12, 58};
        for (int seat = 1; seat <= 7; seat++) {
            CHECK.due("share(" + seat + ")", x.share(seat), shares[seat]);
            CHECK.due("fits(" + seat + ")", x.fits(seat), true);
        }
        sumsAre(x, 339, 498, 288, 247);
        CHECK.due("close() of an empty week", x.close(), 0);
        CHECK.due("share(1)", x.share(1), 72);
        sumsAre(x, 339, 498, 288, 247);
    }

    private static void whoIsNotAcceptedChangesNothing() {
        KeyCustody silent = Check.dealt(1);
        CHECK.due("close() with a silent one", silent.close(), 0);
        sharesAreAtFirst(silent);
        KeyCustody shifted = Check.dealt(3);
        CHECK.due("close() with a shifted one", shifted.close(), 0);
        sharesAreAtFirst(shifted);
        KeyCustody liar = Check.dealt(2);
        liar.look(2);
        CHECK.due("close() with an open complaint", liar.close(), 0);
        sharesAreAtFirst(liar);
        CHECK.due("about(0)", liar.about(0), 2);
    }

    /** Seat 1 has dealt; 1, 4 and 7 have complained of it, and that many of them are answered. */
    private static KeyCustody accused(int answered) {
        KeyCustody x = Check.founded();
        int[] accusers = {1, 4, 7};
        for (int seat : accusers) {
            x.fault(seat, 4);
        }
        x.deal(1, 3, 4, 5);
        for (int seat : accusers) {
            x.look(seat);
        }
        for (int i = 0; i < answered; i++) {
            x.answer(1, accusers[i]);
        }
        return x;
    }

    private static void allComplaintsMustBeSettled() {
        CHECK.due("close() with three open", accused(0).close(), 0);
        CHECK.due("close() with two open", accused(1).close(), 0);
        CHECK.due("close() with one open", accused(2).close(), 0);
        CHECK.due("close() with none open", accused(3).close(), 1);
        KeyCustody x = Check.founded();
        x.fault(3, 4);
        x.fault(4, 2);
        x.deal(1, 1, 1, 1);
        x.deal(3, 1, 1, 1);
        x.deal(4, 1, 1, 1);
        x.deal(7, 1, 1, 1);
        x.look(3);
        x.look(5);
        x.answer(1, 3);
        x.answer(4, 3);
        x.answer(4, 5);
        x.answer(7, 3);
        CHECK.due("about(2)", x.about(2), 5);
        CHECK.due("about(3)", x.about(3), 3);
        CHECK.due("close() with 3 and 4 open", x.close(), 65);
        CHECK.due("share(1) with two times 3", x.share(1), 66);
        CHECK.due("fits(5)", x.fits(5), true);
        CHECK.due("reconstruct(127)", x.reconstruct(127), 42);
    }

    private static void commitment0MustBe1() {
        KeyCustody x = Check.dealt(3);
        x.fault(2, 4);
        x.deal(2, 3, 4, 5);
        x.look(2);
        x.answer(1, 2);
        x.answer(2, 2);
        CHECK.due("about(3)", x.about(3), 2);
        CHECK.due("close() with a shifted one, all settled", x.close(), 2);
        CHECK.due("sum(0)", x.sum(0), 339);
    }

    private static void wipedKeepersAddNothing() {
        KeyCustody x = Check.dealt(0);
        x.wipe(2);
        x.wipe(3);
        x.recover(3);
        CHECK.due("close()", x.close(), 1);
        CHECK.due("share(2)", x.share(2), KeyCustody.NONE);
        CHECK.due("share(3), got back ahead of it", x.share(3), 76);
        x.recover(2);
        CHECK.due("share(2), got back behind it", x.share(2), 93);
    }

    private static void sumsGoOnWithoutAnyShare() {
        KeyCustody x = Check.dealt(0);
        for (int seat = 1; seat <= 7; seat++) {
            x.wipe(seat);
        }
        CHECK.due("close()", x.close(), 1);
        CHECK.due("about(5)", x.about(5), 127);
        CHECK.due("share(1)", x.share(1), KeyCustody.NONE);
        sumsAre(x, 339, 498, 288, 247);
    }

    private static void theNextWeekIsEmpty() {
        KeyCustody x = Check.busy();
        x.close();
        CHECK.due("about(0)", x.about(0), 3);
        for (int what : new int[] {2, 3, 4, 6}) {
            CHECK.due("about(" + what + ")", x.about(what), 0);
        }
        for (int seat = 1; seat <= 7; seat++) {
            CHECK.due("look(" + seat + ")", x.look(seat), 0);
        }
        for (int seat = 1; seat <= 7; seat++) {
            x.deal(seat, 0, 0, 0);
        }
        CHECK.due("about(4)", x.about(4), 127);
        CHECK.due("close() without an old complaint", x.close(), 127);
    }

    private static void theBoardAndTheWipedStay() {
        KeyCustody x = Check.busy();
        int posts = x.about(1);
        x.close();
        CHECK.due("about(1)", x.about(1), posts);
        CHECK.due("the week of the first post", x.post(0, 4), 1);
        CHECK.due("the week of the last post", x.post(posts - 1, 4), 2);
        CHECK.due("about(5)", x.about(5), 4);
        x.deal(1, 0, 0, 0);
        CHECK.due("the week of the next post", x.post(posts, 4), 3);
    }

    private static void aFullBoardStaysFull() {
        KeyCustody x = Check.boardWith(250);
        CHECK.due("close() with a full board", x.close(), 1);
        CHECK.due("share(1)", x.share(1), 72);
        CHECK.due("about(0)", x.about(0), 2);
        CHECK.due("about(1)", x.about(1), 250);
        CHECK.due("close() again", x.close(), 0);
    }

    private static void theKeyStaysOverManyWeeks() {
        KeyCustody x = new KeyCustody();
        x.group(2147286433, 32749, 503364241);
        x.found(32748, 32748, 32748, 32748);
        int key = x.sum(0);
        for (int week = 1; week <= 30; week++) {
            for (int seat = 1; seat <= 7; seat++) {
                x.deal(seat, 32748 - week, week * seat, 32748);
            }
            CHECK.due("close() of week " + week, x.close(), 127);
            CHECK.due("fits(7) behind week " + week, x.fits(7), true);
            CHECK.due("reconstruct behind week " + week, x.reconstruct(127 - 5), 32748);
        }
        CHECK.due("sum(0)", x.sum(0), key);
        CHECK.due("about(0)", x.about(0), 31);
    }
}
