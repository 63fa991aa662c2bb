/** Promise 6. */
public final class LookTest {
    private static final Check CHECK = new Check();

    public static void main(String[] args) {
        honestOnesComplainOfWrongSharesAlone();
        accusersComplainOfAllDealers();
        onceAWeekOfEach();
        aBoardWithoutRoomTakesNone();
        CHECK.end();
    }

    private static void honestOnesComplainOfWrongSharesAlone() {
        KeyCustody x = Check.dealt(6);
        x.fault(2, 5);
        x.deal(2, 1, 2, 3);
        x.deal(3, 1, 2, 3);
        CHECK.due("look(1)", x.look(1), 0);
        CHECK.due("look(2)", x.look(2), 1);
        CHECK.due("look(3)", x.look(3), 1);
        CHECK.due("about(1)", x.about(1), 5);
        complaintIs(x, 3, 2, 1);
        complaintIs(x, 4, 3, 2);
        x.wipe(2);
        CHECK.due("about(2)", x.about(2), 2);
        KeyCustody wiped = Check.dealt(2);
        wiped.wipe(2);
        CHECK.due("look(2) of one that is wiped", wiped.look(2), 1);
        CHECK.due("look(1) when nobody dealt", Check.founded().look(1), 0);
    }

    private static void complaintIs(KeyCustody x, int n, int keeper, int dealer) {
        CHECK.due("kind of post " + n, x.post(n, 0), 2);
        CHECK.due("who complains in post " + n, x.post(n, 1), keeper);
        CHECK.due("of whom post " + n + " complains", x.post(n, 2), dealer);
        CHECK.due("number of post " + n, x.post(n, 3), 0);
    }

    private static void accusersComplainOfAllDealers() {
        KeyCustody x = Check.founded();
        x.fault(4, 4);
        x.fault(6, 1);
        x.deal(7, 1, 2, 3);
        x.deal(6, 1, 2, 3);
        x.deal(4, 1, 2, 3);
        x.deal(1, 1, 2, 3);
        CHECK.due("look(4)", x.look(4), 3);
        complaintIs(x, 3, 4, 1);
        complaintIs(x, 4, 4, 4);
        complaintIs(x, 5, 4, 7);
        CHECK.due("look(5)", x.look(5), 0);
    }

    private static void onceAWeekOfEach() {
        KeyCustody x = Check.dealt(5);
        x.fault(2, 4);
        CHECK.due("look(2)", x.look(2), 1);
        CHECK.due("look(2) again", x.look(2), 0);
        x.deal(3, 1, 1, 1);
        CHECK.due("look(2) with a new dealer", x.look(2), 1);
        CHECK.due("answer(1, 2)", x.answer(1, 2), true);
        CHECK.due("look(2) behind an answer", x.look(2), 0);
        CHECK.due("about(2)", x.about(2), 2);
        x.close();
        x.fault(1, 2);
        x.deal(1, 1, 1, 1);
        CHECK.due("look(2) in the next week", x.look(2), 1);
        CHECK.due("about(2) in the next week", x.about(2), 1);
    }

    private static void aBoardWithoutRoomTakesNone() {
        KeyCustody x = Check.boardWith(247);
        x.fault(3, 4);
        x.deal(2, 1, 1, 1);
        CHECK.due("room for two", x.look(3), 2);
        CHECK.due("about(1)", x.about(1), 250);
        CHECK.due("look(3) with nothing to post", x.look(3), 0);
        x.fault(4, 4);
        CHECK.refused("look(4) on a full board", Check.NOT_NOW, () -> x.look(4));
        KeyCustody narrow = Check.boardWith(248);
        narrow.fault(3, 4);
        narrow.deal(2, 1, 1, 1);
        CHECK.refused("two with room for one", Check.NOT_NOW, () -> narrow.look(3));
        CHECK.due("about(1) with room for one", narrow.about(1), 249);
        CHECK.due("about(2) with room for one", narrow.about(2), 0);
        CHECK.due("close() without complaints", narrow.close(), 3);
    }
}
