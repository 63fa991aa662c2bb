/** Promises 11 to 15: share, fits, sum, element and reconstruct. */
public final class ReadingTest {
    private static final Check CHECK = new Check();

    public static void main(String[] args) {
        sharesAndTheirFit();
        sumsHaveFourPlaces();
        elementsFollowTheSums();
        anyFourReconstruct();
        wrongSharesReconstructWrongly();
        wrongSomeAreRefused();
        CHECK.end();
    }

    private static void sharesAndTheirFit() {
        KeyCustody x = Check.dealt(2);
        x.close();
        for (int seat = 1; seat <= 7; seat++) {
            CHECK.due("fits(" + seat + ") by a liar at 1", x.fits(seat), seat != 2);
        }
        CHECK.due("share(2)", x.share(2), 94);
        x.wipe(3);
        CHECK.due("share(3)", x.share(3), KeyCustody.NONE);
        CHECK.due("fits(3)", x.fits(3), false);
    }

    private static void sumsHaveFourPlaces() {
        KeyCustody x = Check.dealt(0);
        CHECK.due("sum(1) while the week is open", x.sum(1), 100);
        x.close();
        CHECK.due("sum(0)", x.sum(0), 339);
        CHECK.due("sum(3)", x.sum(3), 247);
        for (int j : new int[] {-1, 4, Integer.MIN_VALUE, Integer.MAX_VALUE}) {
            CHECK.refused("sum(" + j + ")", Check.OUTSIDE, () -> x.sum(j));
        }
    }

    private static void elementsFollowTheSums() {
        int[] first = {0, 36, 223, 478, 1, 570, 60, 195};
        int[] second = {0, 394, 284, 388, 284, 450, 247, 214};
        KeyCustody x = Check.dealt(2);
        x.wipe(3);
        for (int seat = 1; seat <= 7; seat++) {
            CHECK.due("element(" + seat + ")", x.element(seat), first[seat]);
        }
        x.close();
        for (int seat = 1; seat <= 7; seat++) {
            CHECK.due("element(" + seat + ") in week 2", x.element(seat), second[seat]);
        }
    }

    private static void anyFourReconstruct() {
        KeyCustody x = Check.founded();
        KeyCustody great = new KeyCustody();
        great.group(2147286433, 32749, 503364241);
        great.found(32748, 32748, 32748, 32748);
        for (int some = 0; some <= 127; some++) {
            if (Integer.bitCount(some) >= 4) {
                CHECK.due("reconstruct(" + some + ")", x.reconstruct(some), 42);
                CHECK.due("reconstruct(" + some + ") of a great key", great.reconstruct(some), 32748);
            }
        }
    }

    private static void wrongSharesReconstructWrongly() {
        KeyCustody x = Check.dealt(2);
        x.close();
        CHECK.due("reconstruct(15)", x.reconstruct(15), 36);
        CHECK.due("reconstruct(127)", x.reconstruct(127), 36);
        CHECK.due("reconstruct of 1, 2, 5, 7", x.reconstruct(1 + 2 + 16 + 64), 6);
        CHECK.due("reconstruct(120)", x.reconstruct(120), 42);
    }

    private static void wrongSomeAreRefused() {
        KeyCustody x = Check.founded();
        for (int some : new int[] {-1, 128, 143, 255, 0, 1, 7, 112, Integer.MIN_VALUE, Integer.MAX_VALUE}) {
            CHECK.refused("reconstruct(" + some + ")", Check.WRONG, () -> x.reconstruct(some));
        }
        x.wipe(7);
        CHECK.refused("reconstruct with a wiped one of four", Check.WRONG, () -> x.reconstruct(120));
        CHECK.refused("reconstruct with a wiped one behind four", Check.WRONG, () -> x.reconstruct(127));
        CHECK.due("reconstruct(63)", x.reconstruct(63), 42);
    }
}
