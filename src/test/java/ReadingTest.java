/** Promises 11 to 15: share, fits, sum, element and reconstruct. */
public final class ReadingTest {
    private static final Check CHECK = new Check();

    public static void main(String[] args) {
        aShareOf0IsNotNone();
        sharesChangeWhenTheWeekIsClosed();
        aWipedShareFitsNot();
        sumsHaveThePlaces0To3();
        elementsFollowTheSums();
        aWipedOrWrongShareLeavesTheElement();
        anyFourReconstruct();
        theFourLeastSeatsReconstruct();
        someAreFrom0To127();
        fewerThanFourAreTooFew();
        aWipedOneIsRefused();
        readingChangesNothing();
        CHECK.end();
    }

    private static void aShareOf0IsNotNone() {
        KeyCustody x = Check.founded();
        CHECK.due("share(4)", x.share(4), 0);
        CHECK.due("fits(4)", x.fits(4), true);
        CHECK.due("about(5)", x.about(5), 0);
        x.wipe(4);
        CHECK.due("share(4), wiped", x.share(4), KeyCustody.NONE);
        CHECK.due("about(5), wiped", x.about(5), 8);
        x.recover(4);
        CHECK.due("share(4), got back", x.share(4), 0);
    }

    private static void sharesChangeWhenTheWeekIsClosed() {
        KeyCustody x = Check.dealt(2);
        CHECK.due("share(2) while the week is open", x.share(2), 31);
        CHECK.due("fits(2) while the week is open", x.fits(2), true);
        x.close();
        CHECK.due("share(2)", x.share(2), 94);
        for (int seat = 1; seat <= 7; seat++) {
            CHECK.due("fits(" + seat + ") by a liar at 1", x.fits(seat), seat != 2);
        }
    }

    private static void aWipedShareFitsNot() {
        for (int seat = 1; seat <= 7; seat++) {
            KeyCustody x = Check.founded();
            CHECK.due("fits(" + seat + ")", x.fits(seat), true);
            x.wipe(seat);
            CHECK.due("fits(" + seat + "), wiped", x.fits(seat), false);
        }
        KeyCustody zeros = Check.grouped();
        zeros.found(0, 0, 0, 0);
        zeros.wipe(1);
        CHECK.due("fits(1) of a wiped 0", zeros.fits(1), false);
    }

    private static void sumsHaveThePlaces0To3() {
        KeyCustody x = Check.dealt(0);
        CHECK.due("sum(1) while the week is open", x.sum(1), 100);
        x.close();
        CHECK.due("sum(0)", x.sum(0), 339);
        CHECK.due("sum(3)", x.sum(3), 247);
        for (int j : new int[] {-1, 4, Integer.MIN_VALUE, Integer.MAX_VALUE}) {
            CHECK.refused("no place", Check.OUTSIDE, Check::founded, "sum", j);
            CHECK.refused("no place", Check.OUTSIDE, Check::busy, "sum", j);
        }
    }

    private static final int[] FIRST_ELEMENTS = {0, 36, 223, 478, 1, 570, 60, 195};
    private static final int[] SECOND_ELEMENTS = {0, 394, 284, 388, 284, 450, 247, 214};

    private static void elementsFollowTheSums() {
        KeyCustody x = Check.dealt(0);
        elementsAre(x, FIRST_ELEMENTS);
        x.close();
        elementsAre(x, SECOND_ELEMENTS);
    }

    private static void elementsAre(KeyCustody x, int[] wants) {
        for (int seat = 1; seat <= 7; seat++) {
            CHECK.due("element(" + seat + ")", x.element(seat), wants[seat]);
        }
    }

    private static void aWipedOrWrongShareLeavesTheElement() {
        KeyCustody x = Check.dealt(2);
        x.wipe(3);
        elementsAre(x, FIRST_ELEMENTS);
        x.close();
        CHECK.due("fits(2)", x.fits(2), false);
        elementsAre(x, SECOND_ELEMENTS);
    }

    private static void anyFourReconstruct() {
        KeyCustody x = Check.founded();
        KeyCustody great = new KeyCustody();
        great.group(2147286433, 32749, 503364241);
        great.found(32748, 32748, 32748, 32748);
        for (int some = 0; some <= 127; some++) {
            if (Integer.bitCount(some) >= 4) {
                CHECK.due("reconstruct(" + some + ")", x.reconstruct(some), 42);
                CHECK.due("reconstruct(" + some + ") of a great key", great.reconstruct(some), 32748);
            }
        }
    }

    /** Where 2 is one of the four, its wrong share gives a wrong key. */
    private static void theFourLeastSeatsReconstruct() {
        KeyCustody x = Check.dealt(2);
        x.close();
        CHECK.due("reconstruct(15)", x.reconstruct(15), 36);
        CHECK.due("reconstruct(127)", x.reconstruct(127), 36);
        CHECK.due("reconstruct of 1, 2, 5, 7", x.reconstruct(1 + 2 + 16 + 64), 6);
        CHECK.due("reconstruct(125)", x.reconstruct(125), 42);
        KeyCustody last = Check.dealt(6, 2);
        last.close();
        CHECK.due("reconstruct with a wrong one behind four", last.reconstruct(127), 42);
        CHECK.due("reconstruct with the last four", last.reconstruct(120) != 42, true);
    }

    private static void someAreFrom0To127() {
        CHECK.due("reconstruct(127)", Check.founded().reconstruct(127), 42);
        for (int some : new int[] {-1, -128, -113, 128, 135, 143, 255, Integer.MIN_VALUE, Integer.MAX_VALUE}) {
            CHECK.refused("no sum of seats", Check.WRONG, Check::founded, "reconstruct", some);
        }
    }

    private static void fewerThanFourAreTooFew() {
        KeyCustody x = Check.founded();
        for (int some = 0; some <= 127; some++) {
            if (Integer.bitCount(some) == 4) {
                CHECK.due("reconstruct(" + some + ") of four", x.reconstruct(some), 42);
            } else if (Integer.bitCount(some) < 4) {
                CHECK.refused("fewer than four", Check.WRONG, Check::founded, "reconstruct", some);
            }
        }
    }

    private static KeyCustody wipedAt7() {
        KeyCustody x = Check.founded();
        x.wipe(7);
        return x;
    }

    private static void aWipedOneIsRefused() {
        KeyCustody x = wipedAt7();
        CHECK.due("reconstruct(63)", x.reconstruct(63), 42);
        CHECK.due("reconstruct(60)", x.reconstruct(60), 42);
        CHECK.refused("a wiped one of four", Check.WRONG, ReadingTest::wipedAt7, "reconstruct", 120);
        CHECK.refused("a wiped one behind four", Check.WRONG, ReadingTest::wipedAt7, "reconstruct", 127);
        x.recover(7);
        CHECK.due("reconstruct(120) with one got back", x.reconstruct(120), 42);
    }

    private static void readingChangesNothing() {
        KeyCustody x = Check.busy();
        for (int i = 1; i <= 7; i++) {
            x.share(i);
            x.fits(i);
            x.element(i);
            x.sum(i / 2);
            x.post(i, i);
            x.about(i - 1);
        }
        x.reconstruct(123);
        CHECK.alike("behind all reading calls", x, Check.busy());
    }
}
