/** Promise 4. */
public final class FaultTest {
    private static final Check CHECK = new Check();

    public static void main(String[] args) {
        kindsAreSetAndTakenBack();
        wrongKindsAreRefused();
        aFourthIsRefused();
        whoHasDealtStaysSo();
        aWeekEndsAllFaults();
        CHECK.end();
    }

    private static void kindsAreSetAndTakenBack() {
        KeyCustody x = Check.founded();
        for (int kind = 1; kind <= 6; kind++) {
            x.fault(7, kind);
            CHECK.due("about(6) with kind " + kind, x.about(6), 64);
        }
        x.fault(7, 0);
        CHECK.due("about(6) with kind 0", x.about(6), 0);
        x.fault(2, 4);
        x.deal(1, 3, 4, 5);
        x.fault(2, 0);
        CHECK.due("look(2) of one that is no accuser any more", x.look(2), 0);
        x.fault(2, 4);
        CHECK.due("look(2) of an accuser", x.look(2), 1);
    }

    private static void wrongKindsAreRefused() {
        KeyCustody x = Check.dealt(0);
        for (int kind : new int[] {-1, 7, Integer.MIN_VALUE, Integer.MAX_VALUE}) {
            CHECK.refused("fault(2, " + kind + ")", Check.WRONG, () -> x.fault(2, kind));
            CHECK.refused("fault(1, " + kind + ") of one that dealt", Check.WRONG, () -> x.fault(1, kind));
        }
        CHECK.due("about(6)", x.about(6), 0);
    }

    private static void aFourthIsRefused() {
        KeyCustody x = Check.founded();
        x.fault(1, 2);
        x.fault(4, 4);
        x.fault(7, 3);
        CHECK.refused("a fourth", Check.NOT_NOW, () -> x.fault(2, 1));
        CHECK.refused("a fourth of no kind at all", Check.WRONG, () -> x.fault(2, 7));
        CHECK.due("about(6)", x.about(6), 73);
        x.fault(2, 0);
        x.fault(7, 5);
        CHECK.due("about(6) with another kind", x.about(6), 73);
        x.fault(7, 0);
        x.fault(2, 1);
        CHECK.due("about(6) with another keeper", x.about(6), 11);
    }

    private static void whoHasDealtStaysSo() {
        KeyCustody x = Check.dealt(2);
        CHECK.refused("fault of a liar that dealt", Check.NOT_NOW, () -> x.fault(1, 0));
        CHECK.refused("the same kind again", Check.NOT_NOW, () -> x.fault(1, 2));
        CHECK.due("look(2)", x.look(2), 1);
        CHECK.due("answer(1, 2)", x.answer(1, 2), false);
        KeyCustody silent = Check.dealt(1);
        CHECK.refused("fault of one that dealt silently", Check.NOT_NOW, () -> silent.fault(1, 0));
        CHECK.due("about(6)", silent.about(6), 1);
    }

    private static void aWeekEndsAllFaults() {
        KeyCustody x = Check.dealt(2);
        x.fault(2, 4);
        x.fault(3, 1);
        x.close();
        CHECK.due("about(6) in the next week", x.about(6), 0);
        x.fault(4, 1);
        x.deal(3, 1, 1, 1);
        x.deal(1, 1, 1, 1);
        CHECK.due("about(4)", x.about(4), 5);
        CHECK.due("look(2)", x.look(2), 0);
    }
}
