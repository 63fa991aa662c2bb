import java.util.function.Supplier;

/** Promise 3. */
public final class FoundTest {
    private static final Check CHECK = new Check();

    public static void main(String[] args) {
        foundingGivesSharesAndSums();
        numbersAreFrom0ToQLess1();
        whatIsNoNumberIsRefused();
        foundingAnewBeginsAnew();
        CHECK.end();
    }

    private static void foundingGivesSharesAndSums() {
        KeyCustody x = Check.founded();
        for (int seat = 1; seat <= 7; seat++) {
            CHECK.due("share(" + seat + ")", x.share(seat), Check.FIRST_SHARES[seat]);
            CHECK.due("fits(" + seat + ")", x.fits(seat), true);
        }
        CHECK.due("sum(0)", x.sum(0), 339);
        CHECK.due("sum(1)", x.sum(1), 100);
        CHECK.due("sum(2)", x.sum(2), 330);
        CHECK.due("sum(3)", x.sum(3), 482);
        CHECK.due("about(0)", x.about(0), 1);
        for (int what = 1; what <= 6; what++) {
            CHECK.due("about(" + what + ")", x.about(what), 0);
        }
    }

    /** 64 to the 100 is 313, the inverse of 64. */
    private static void numbersAreFrom0ToQLess1() {
        KeyCustody x = Check.grouped();
        x.found(0, 0, 0, 0);
        CHECK.due("share(7) of zeros", x.share(7), 0);
        CHECK.due("sum(3) of zeros", x.sum(3), 1);
        CHECK.due("the key 0", x.reconstruct(15), 0);
        for (int place = 0; place <= 3; place++) {
            int[] a = new int[4];
            a[place] = 100;
            x.found(a[0], a[1], a[2], a[3]);
            CHECK.due("share(1) with 100 at " + place, x.share(1), 100);
            for (int j = 0; j <= 3; j++) {
                CHECK.due("sum(" + j + ") with 100 at " + place, x.sum(j), j == place ? 313 : 1);
            }
        }
        x.found(100, 100, 100, 100);
        CHECK.due("share(1) of the greatest", x.share(1), 97);
        CHECK.due("the key 100", x.reconstruct(120), 100);
    }

    private static void whatIsNoNumberIsRefused() {
        isRefused("the first one", Check::grouped);
        isRefused("a second one", Check::founded);
        isRefused("within a week", Check::busy);
        isRefused("with a full board", () -> Check.boardWith(250));
    }

    private static void isRefused(String when, Supplier<KeyCustody> maker) {
        for (int no : new int[] {-1, 101, 102, Integer.MIN_VALUE, Integer.MAX_VALUE}) {
            CHECK.refused(when, Check.WRONG, maker, "found", no, 1, 1, 1);
            CHECK.refused(when, Check.WRONG, maker, "found", 1, no, 1, 1);
            CHECK.refused(when, Check.WRONG, maker, "found", 1, 1, no, 1);
            CHECK.refused(when, Check.WRONG, maker, "found", 1, 1, 1, no);
        }
    }

    private static void foundingAnewBeginsAnew() {
        KeyCustody x = Check.busy();
        x.found(42, 5, 6, 7);
        CHECK.due("the week", x.about(0), 1);
        for (int what = 1; what <= 6; what++) {
            CHECK.due("about(" + what + ")", x.about(what), 0);
        }
        CHECK.alike("behind a second founding", x, Check.founded());
        KeyCustody full = Check.boardWith(250);
        full.found(42, 5, 6, 7);
        CHECK.due("about(1) of a board that was full", full.about(1), 0);
        full.deal(1, 3, 4, 5);
        CHECK.due("about(1) with a dealing", full.about(1), 1);
        KeyCustody wiped = Check.founded();
        for (int seat = 1; seat <= 7; seat++) {
            wiped.wipe(seat);
        }
        wiped.found(42, 5, 6, 7);
        CHECK.alike("behind a founding with nobody's share", wiped, Check.founded());
    }
}
