import java.util.function.Supplier;

/** Promise 1, and what "Terms" says of all calls: a founding ahead of all else, then a seat that there is. */
public final class NewObjectTest {
    private static final Check CHECK = new Check();

    public static void main(String[] args) {
        CHECK.due("NONE", KeyCustody.NONE, -1);
        nothingStandsInANewObject();
        foundNeedsAGroupAheadOfAllElse();
        everyCallNeedsAFoundingAheadOfAllElse();
        everyCallIsTakenBehindAFounding();
        aSeatComesAheadOfTheRest();
        theFirstAndTheLastSeatAreTaken();
        objectsAreApart();
        CHECK.end();
    }

    private static void nothingStandsInANewObject() {
        KeyCustody x = new KeyCustody();
        for (int what = 0; what <= 6; what++) {
            CHECK.due("about(" + what + ")", x.about(what), 0);
        }
    }

    private static void foundNeedsAGroupAheadOfAllElse() {
        for (int a : new int[] {-1, 0, 1, Integer.MAX_VALUE}) {
            CHECK.refused("without a group", Check.NOT_FOUNDED, KeyCustody::new, "found", a, 0, 0, 0);
            CHECK.refused("with a refused one", Check.NOT_FOUNDED, NewObjectTest::refusedGroup, "found", a, 0, 0, 0);
        }
        KeyCustody grouped = Check.grouped();
        grouped.found(1, 2, 3, 4);
        CHECK.due("about(0) with a group", grouped.about(0), 1);
    }

    private static KeyCustody refusedGroup() {
        KeyCustody x = new KeyCustody();
        Calls.outcome(x, "group", 607, 101, 1);
        return x;
    }

    private static KeyCustody refusedFound() {
        KeyCustody x = Check.grouped();
        Calls.outcome(x, "found", 1, 2, 3, 101);
        return x;
    }

    private static KeyCustody groupedAnew() {
        KeyCustody x = Check.busy();
        x.group(607, 101, 64);
        return x;
    }

    private static void everyCallNeedsAFoundingAheadOfAllElse() {
        everyCallIsRefused("in a new object", KeyCustody::new);
        everyCallIsRefused("behind a refused group", NewObjectTest::refusedGroup);
        everyCallIsRefused("with a group", Check::grouped);
        everyCallIsRefused("behind a refused found", NewObjectTest::refusedFound);
        everyCallIsRefused("behind a new group", NewObjectTest::groupedAnew);
    }

    /** With right arguments, and with wrong ones, so that a later test would answer otherwise. */
    private static void everyCallIsRefused(String when, Supplier<KeyCustody> maker) {
        for (int seat : new int[] {0, 1, 7, 8}) {
            for (String name : new String[] {"look", "wipe", "recover", "share", "fits", "element"}) {
                CHECK.refused(when, Check.NOT_FOUNDED, maker, name, seat);
            }
            CHECK.refused(when, Check.NOT_FOUNDED, maker, "fault", seat, 1);
            CHECK.refused(when, Check.NOT_FOUNDED, maker, "fault", seat, 7);
            CHECK.refused(when, Check.NOT_FOUNDED, maker, "deal", seat, 1, 2, 3);
            CHECK.refused(when, Check.NOT_FOUNDED, maker, "deal", seat, -1, 2, 3);
            CHECK.refused(when, Check.NOT_FOUNDED, maker, "answer", seat, 1);
            CHECK.refused(when, Check.NOT_FOUNDED, maker, "answer", 1, seat);
        }
        CHECK.refused(when, Check.NOT_FOUNDED, maker, "close");
        for (int j : new int[] {-1, 0, 3, 4}) {
            CHECK.refused(when, Check.NOT_FOUNDED, maker, "sum", j);
        }
        for (int some : new int[] {-1, 0, 15, 127, 128}) {
            CHECK.refused(when, Check.NOT_FOUNDED, maker, "reconstruct", some);
        }
        for (int n : new int[] {-1, 0, 250}) {
            CHECK.refused(when, Check.NOT_FOUNDED, maker, "post", n, 0);
            CHECK.refused(when, Check.NOT_FOUNDED, maker, "post", n, 9);
        }
    }

    private static void everyCallIsTakenBehindAFounding() {
        KeyCustody x = Check.founded();
        x.fault(1, 4);
        x.deal(1, 3, 4, 5);
        CHECK.due("look(1)", x.look(1), 1);
        CHECK.due("answer(1, 1)", x.answer(1, 1), true);
        CHECK.due("post(2, 3)", x.post(2, 3), 12);
        CHECK.due("close()", x.close(), 1);
        x.wipe(7);
        CHECK.due("recover(7)", x.recover(7), 15);
        CHECK.due("share(7)", x.share(7), 58);
        CHECK.due("fits(7)", x.fits(7), true);
        CHECK.due("sum(0)", x.sum(0), 339);
        CHECK.due("element(7)", x.element(7), 214);
        CHECK.due("reconstruct(15)", x.reconstruct(15), 42);
    }

    /** The board is full, three others are faulty, seats 3 to 7 are wiped: each call has more to refuse. */
    private static KeyCustody atEveryBound() {
        KeyCustody x = Check.boardWith(250);
        for (int seat = 3; seat <= 5; seat++) {
            x.fault(seat, 4);
        }
        for (int seat = 3; seat <= 7; seat++) {
            x.wipe(seat);
        }
        return x;
    }

    private static void aSeatComesAheadOfTheRest() {
        Supplier<KeyCustody> maker = NewObjectTest::atEveryBound;
        String why = "a seat that there isn't";
        for (int seat : new int[] {0, 8, -1, 9, Integer.MIN_VALUE, Integer.MAX_VALUE}) {
            for (String name : new String[] {"look", "wipe", "recover", "share", "fits", "element"}) {
                CHECK.refused(why, Check.NO_SEAT, maker, name, seat);
            }
            CHECK.refused(why, Check.NO_SEAT, maker, "fault", seat, 1);
            CHECK.refused(why, Check.NO_SEAT, maker, "fault", seat, 7);
            CHECK.refused(why, Check.NO_SEAT, maker, "deal", seat, 1, 2, 3);
            CHECK.refused(why, Check.NO_SEAT, maker, "deal", seat, 101, 0, 0);
            CHECK.refused(why, Check.NO_SEAT, maker, "answer", seat, 1);
            CHECK.refused(why, Check.NO_SEAT, maker, "answer", 1, seat);
            CHECK.refused(why, Check.NO_SEAT, maker, "answer", 3, seat);
            CHECK.refused(why, Check.NO_SEAT, maker, "answer", seat, seat);
        }
    }

    private static void theFirstAndTheLastSeatAreTaken() {
        for (int seat : new int[] {1, 7}) {
            KeyCustody x = Check.founded();
            x.fault(seat, 4);
            x.deal(seat, 3, 4, 5);
            CHECK.due("look(" + seat + ")", x.look(seat), 1);
            CHECK.due("answer of and to " + seat, x.answer(seat, seat), true);
            x.wipe(seat);
            CHECK.due("recover(" + seat + ")", x.recover(seat), seat == 1 ? 30 : 15);
            CHECK.due("share(" + seat + ")", x.share(seat), Check.FIRST_SHARES[seat]);
            CHECK.due("fits(" + seat + ")", x.fits(seat), true);
            CHECK.due("element(" + seat + ")", x.element(seat), seat == 1 ? 36 : 195);
        }
    }

    private static void objectsAreApart() {
        KeyCustody one = Check.busy();
        KeyCustody other = new KeyCustody();
        CHECK.due("about(0) of another", other.about(0), 0);
        other.group(23, 11, 2);
        other.found(1, 1, 1, 1);
        other.deal(1, 1, 1, 1);
        other.close();
        CHECK.alike("with another object beside it", one, Check.busy());
    }
}
