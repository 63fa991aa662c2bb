/** Promise 3. */
public final class FoundTest {
    private static final Check CHECK = new Check();

    public static void main(String[] args) {
        foundingGivesSharesAndSums();
        whatIsNoNumberIsRefused();
        foundingAnewBeginsAnew();
        CHECK.end();
    }

    private static void foundingGivesSharesAndSums() {
        KeyCustody x = Check.founded();
        for (int seat = 1; seat <= 7; seat++) {
            CHECK.due("share(" + seat + ")", x.share(seat), Check.FIRST_SHARES[seat]);
            CHECK.due("fits(" + seat + ")", x.fits(seat), true);
        }
        CHECK.due("sum(0)", x.sum(0), 339);
        CHECK.due("sum(1)", x.sum(1), 100);
        CHECK.due("sum(2)", x.sum(2), 330);
        CHECK.due("sum(3)", x.sum(3), 482);
        CHECK.due("about(0)", x.about(0), 1);
        CHECK.due("about(1)", x.about(1), 0);
        x.found(0, 0, 0, 0);
        CHECK.due("share(7) of zeros", x.share(7), 0);
        CHECK.due("sum(3) of zeros", x.sum(3), 1);
        x.found(100, 100, 100, 100);
        CHECK.due("share(1) of the greatest", x.share(1), 97);
    }

    private static void whatIsNoNumberIsRefused() {
        KeyCustody x = Check.founded();
        for (int no : new int[] {-1, 101, Integer.MIN_VALUE, Integer.MAX_VALUE}) {
            CHECK.refused("found with a " + no, Check.WRONG, () -> x.found(no, 1, 1, 1));
            CHECK.refused("found with b " + no, Check.WRONG, () -> x.found(1, no, 1, 1));
            CHECK.refused("found with c " + no, Check.WRONG, () -> x.found(1, 1, no, 1));
            CHECK.refused("found with d " + no, Check.WRONG, () -> x.found(1, 1, 1, no));
        }
        CHECK.due("share(1) behind refused ones", x.share(1), 60);
        CHECK.due("sum(0) behind refused ones", x.sum(0), 339);
        KeyCustody fresh = Check.grouped();
        CHECK.refused("the first found", Check.WRONG, () -> fresh.found(1, 1, 1, 101));
        CHECK.refused("share behind it", Check.NOT_FOUNDED, () -> fresh.share(1));
    }

    private static void foundingAnewBeginsAnew() {
        KeyCustody x = Check.dealt(0);
        x.close();
        x.fault(2, 4);
        x.deal(1, 1, 1, 1);
        x.look(2);
        x.answer(1, 2);
        x.wipe(7);
        x.found(42, 5, 6, 7);
        CHECK.due("the week", x.about(0), 1);
        for (int what = 1; what <= 6; what++) {
            CHECK.due("about(" + what + ")", x.about(what), 0);
        }
        CHECK.due("share(7), wiped before", x.share(7), 45);
        CHECK.due("sum(1)", x.sum(1), 100);
        x.deal(1, 3, 4, 5);
        CHECK.due("look(2), an accuser before", x.look(2), 0);
        CHECK.due("close()", x.close(), 1);
    }
}
