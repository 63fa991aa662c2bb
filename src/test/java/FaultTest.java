/** Promise 4. */
public final class FaultTest {
    private static final Check CHECK = new Check();

    public static void main(String[] args) {
        kindsAreFrom0To6();
        noKindComesAheadOfTheRest();
        kindsAreTakenBack();
        atMostThreeAreFaulty();
        threeThatDealtCountToo();
        whoHasDealtStaysSo();
        whoHasNotDealtMayChange();
        aWeekEndsAllFaults();
        CHECK.end();
    }

    private static void kindsAreFrom0To6() {
        for (int kind = 0; kind <= 6; kind++) {
            for (int seat = 1; seat <= 7; seat++) {
                KeyCustody x = Check.founded();
                x.fault(seat, kind);
                CHECK.due("about(6) with kind " + kind, x.about(6), kind == 0 ? 0 : 1 << (seat - 1));
            }
        }
        for (int kind : new int[] {-1, 7, Integer.MIN_VALUE, Integer.MAX_VALUE}) {
            CHECK.refused("no kind", Check.WRONG, Check::founded, "fault", 2, kind);
            CHECK.refused("no kind within a week", Check.WRONG, Check::busy, "fault", 4, kind);
        }
    }

    private static void noKindComesAheadOfTheRest() {
        for (int kind : new int[] {-1, 7}) {
            CHECK.refused("of one that dealt", Check.WRONG, () -> Check.dealt(0), "fault", 1, kind);
            CHECK.refused("of one that was silent", Check.WRONG, () -> Check.dealt(1), "fault", 1, kind);
            CHECK.refused("of a fourth", Check.WRONG, FaultTest::threeFaulty, "fault", 2, kind);
        }
    }

    private static void kindsAreTakenBack() {
        KeyCustody x = Check.founded();
        x.fault(2, 4);
        x.deal(1, 3, 4, 5);
        x.fault(2, 0);
        CHECK.due("about(6)", x.about(6), 0);
        CHECK.due("look(2) of one that is no accuser any more", x.look(2), 0);
        x.fault(2, 4);
        CHECK.due("look(2) of an accuser", x.look(2), 1);
        KeyCustody changed = Check.founded();
        for (int kind = 1; kind <= 6; kind++) {
            changed.fault(1, kind);
        }
        changed.fault(1, 0);
        CHECK.alike("behind all kinds, taken back", changed, Check.founded());
    }

    private static KeyCustody threeFaulty() {
        KeyCustody x = Check.founded();
        x.fault(1, 2);
        x.fault(4, 4);
        x.fault(7, 3);
        return x;
    }

    private static void atMostThreeAreFaulty() {
        KeyCustody x = threeFaulty();
        CHECK.due("about(6) with a third", x.about(6), 73);
        for (int kind = 1; kind <= 6; kind++) {
            CHECK.refused("a fourth", Check.NOT_NOW, FaultTest::threeFaulty, "fault", 2, kind);
        }
        x.fault(2, 0);
        CHECK.due("about(6) with a fourth that is none", x.about(6), 73);
        for (int kind = 1; kind <= 6; kind++) {
            x.fault(7, kind);
            CHECK.due("about(6) with another kind of the third", x.about(6), 73);
        }
        x.fault(7, 0);
        x.fault(2, 1);
        CHECK.due("about(6) with another keeper", x.about(6), 11);
    }

    private static KeyCustody threeDealt() {
        KeyCustody x = Check.founded();
        for (int seat = 1; seat <= 3; seat++) {
            x.fault(seat, seat);
            x.deal(seat, 1, 2, 3);
        }
        return x;
    }

    private static void threeThatDealtCountToo() {
        CHECK.due("about(6)", threeDealt().about(6), 7);
        CHECK.refused("a fourth", Check.NOT_NOW, FaultTest::threeDealt, "fault", 4, 4);
        for (int seat = 1; seat <= 3; seat++) {
            CHECK.refused("of one of them", Check.NOT_NOW, FaultTest::threeDealt, "fault", seat, 0);
        }
    }

    private static void whoHasDealtStaysSo() {
        for (int kind = 0; kind <= 6; kind++) {
            int before = kind;
            for (int next = 0; next <= 6; next++) {
                CHECK.refused("dealt with kind " + kind, Check.NOT_NOW, () -> Check.dealt(before), "fault", 1, next);
            }
        }
    }

    private static void whoHasNotDealtMayChange() {
        KeyCustody x = Check.dealt(0);
        x.fault(2, 4);
        CHECK.due("look(2)", x.look(2), 1);
        x.fault(2, 2);
        x.wipe(3);
        x.fault(3, 1);
        CHECK.due("about(6) of one that looked and one that is wiped", x.about(6), 6);
        x.deal(3, 1, 2, 3);
        CHECK.due("about(4)", x.about(4), 1);
    }

    private static void aWeekEndsAllFaults() {
        KeyCustody x = Check.founded();
        x.fault(1, 2);
        x.fault(2, 4);
        x.fault(3, 1);
        x.deal(3, 1, 2, 3);
        x.close();
        KeyCustody other = Check.founded();
        other.close();
        CHECK.alike("behind a week of faults", x, other);
        KeyCustody next = threeDealt();
        next.close();
        for (int seat = 1; seat <= 3; seat++) {
            next.fault(seat + 3, 6);
        }
        CHECK.due("about(6) in the next week", next.about(6), 56);
    }
}
