/** Promise 1, and that every call but group() and about() needs a founding ahead of all else. */
public final class NewObjectTest {
    private static final Check CHECK = new Check();

    public static void main(String[] args) {
        CHECK.due("NONE", KeyCustody.NONE, -1);
        nothingStandsInANewObject();
        nothingIsFoundedByAGroup();
        aSeatComesAheadOfTheRest();
        objectsAreApart();
        CHECK.end();
    }

    private static void nothingStandsInANewObject() {
        KeyCustody x = new KeyCustody();
        for (int what = 0; what <= 6; what++) {
            CHECK.due("about(" + what + ")", x.about(what), 0);
        }
        CHECK.refused("found without a group", Check.NOT_FOUNDED, () -> x.found(1, 2, 3, 4));
        CHECK.refused("found(-1) without a group", Check.NOT_FOUNDED, () -> x.found(-1, 2, 3, 4));
        everyCallIsRefused(x);
    }

    private static void nothingIsFoundedByAGroup() {
        everyCallIsRefused(Check.grouped());
        KeyCustody again = Check.founded();
        again.group(23, 11, 2);
        everyCallIsRefused(again);
    }

    /** With wrong arguments, so that a later test would answer otherwise. */
    private static void everyCallIsRefused(KeyCustody x) {
        CHECK.refused("fault", Check.NOT_FOUNDED, () -> x.fault(0, 9));
        CHECK.refused("deal", Check.NOT_FOUNDED, () -> x.deal(0, -1, 0, 0));
        CHECK.refused("look", Check.NOT_FOUNDED, () -> x.look(0));
        CHECK.refused("answer", Check.NOT_FOUNDED, () -> x.answer(0, 0));
        CHECK.refused("close", Check.NOT_FOUNDED, x::close);
        CHECK.refused("wipe", Check.NOT_FOUNDED, () -> x.wipe(0));
        CHECK.refused("recover", Check.NOT_FOUNDED, () -> x.recover(8));
        CHECK.refused("share", Check.NOT_FOUNDED, () -> x.share(8));
        CHECK.refused("share(1)", Check.NOT_FOUNDED, () -> x.share(1));
        CHECK.refused("fits", Check.NOT_FOUNDED, () -> x.fits(8));
        CHECK.refused("sum", Check.NOT_FOUNDED, () -> x.sum(4));
        CHECK.refused("sum(0)", Check.NOT_FOUNDED, () -> x.sum(0));
        CHECK.refused("element", Check.NOT_FOUNDED, () -> x.element(8));
        CHECK.refused("reconstruct", Check.NOT_FOUNDED, () -> x.reconstruct(128));
        CHECK.refused("reconstruct(15)", Check.NOT_FOUNDED, () -> x.reconstruct(15));
        CHECK.refused("post", Check.NOT_FOUNDED, () -> x.post(0, 9));
    }

    private static void aSeatComesAheadOfTheRest() {
        KeyCustody x = Check.boardWith(250);
        x.wipe(1);
        for (int seat : new int[] {0, 8, -1, 9, Integer.MIN_VALUE, Integer.MAX_VALUE}) {
            CHECK.refused("fault of seat " + seat, Check.NO_SEAT, () -> x.fault(seat, 7));
            CHECK.refused("deal of seat " + seat, Check.NO_SEAT, () -> x.deal(seat, 101, 0, 0));
            CHECK.refused("look of seat " + seat, Check.NO_SEAT, () -> x.look(seat));
            CHECK.refused("answer of seat " + seat, Check.NO_SEAT, () -> x.answer(seat, 1));
            CHECK.refused("answer to seat " + seat, Check.NO_SEAT, () -> x.answer(3, seat));
            CHECK.refused("wipe of seat " + seat, Check.NO_SEAT, () -> x.wipe(seat));
            CHECK.refused("recover of seat " + seat, Check.NO_SEAT, () -> x.recover(seat));
            CHECK.refused("share of seat " + seat, Check.NO_SEAT, () -> x.share(seat));
            CHECK.refused("fits of seat " + seat, Check.NO_SEAT, () -> x.fits(seat));
            CHECK.refused("element of seat " + seat, Check.NO_SEAT, () -> x.element(seat));
        }
    }

    private static void objectsAreApart() {
        KeyCustody one = Check.founded();
        KeyCustody other = new KeyCustody();
        CHECK.due("about(0) of another", other.about(0), 0);
        other.group(23, 11, 2);
        other.found(1, 1, 1, 1);
        CHECK.due("share(1) of the first", one.share(1), 60);
    }
}
