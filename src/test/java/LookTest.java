/** Promise 6. */
public final class LookTest {
    private static final Check CHECK = new Check();

    public static void main(String[] args) {
        withoutADealerThereIsNoComplaint();
        honestOnesComplainOfWrongSharesAlone();
        onlyTheNextSeatIsCheated();
        accusersComplainOfAllDealers();
        aSilentOneIsNoDealer();
        itselfIsADealerToo();
        complaintsComeInTheOrderOfSeats();
        onceAWeekOfEach();
        theNextWeekHasNoOldComplaints();
        thereIsRoomForAllOrForNone();
        aFullBoardTakesALookWithoutComplaints();
        CHECK.end();
    }

    private static void withoutADealerThereIsNoComplaint() {
        KeyCustody x = Check.founded();
        x.fault(4, 4);
        for (int seat = 1; seat <= 7; seat++) {
            CHECK.due("look(" + seat + ") when nobody dealt", x.look(seat), 0);
        }
        CHECK.due("about(1)", x.about(1), 0);
        CHECK.due("about(2)", x.about(2), 0);
    }

    private static void honestOnesComplainOfWrongSharesAlone() {
        KeyCustody x = Check.dealt(6);
        x.fault(2, 5);
        x.deal(2, 1, 2, 3);
        x.deal(3, 1, 2, 3);
        CHECK.due("look(1)", x.look(1), 0);
        CHECK.due("look(2)", x.look(2), 1);
        CHECK.due("look(3)", x.look(3), 1);
        CHECK.due("about(1)", x.about(1), 5);
        CHECK.due("about(2)", x.about(2), 2);
        complaintIs(x, 3, 2, 1);
        complaintIs(x, 4, 3, 2);
        KeyCustody wiped = Check.dealt(2);
        wiped.wipe(2);
        CHECK.due("look(2) of one that is wiped", wiped.look(2), 1);
    }

    private static void complaintIs(KeyCustody x, int n, int keeper, int dealer) {
        int[] wants = {2, keeper, dealer, 0, x.about(0), 0, 0, 0, 0};
        for (int what = 0; what <= 8; what++) {
            CHECK.due("post(" + n + ", " + what + ") of a complaint", x.post(n, what), wants[what]);
        }
    }

    private static void onlyTheNextSeatIsCheated() {
        for (int kind = 0; kind <= 6; kind++) {
            boolean cheats = kind == 2 || kind == 5 || kind == 6;
            for (int dealer = 1; dealer <= 7; dealer++) {
                int next = dealer == 7 ? 1 : dealer + 1;
                KeyCustody x = Check.dealt(dealer, kind);
                for (int seat = 1; seat <= 7; seat++) {
                    boolean complains = cheats && seat == next || kind == 4 && seat == dealer;
                    String call = "look(" + seat + ") with " + dealer + " of kind " + kind;
                    CHECK.due(call, x.look(seat), complains ? 1 : 0);
                }
            }
        }
    }

    private static void accusersComplainOfAllDealers() {
        KeyCustody x = allDealt(1);
        CHECK.due("look of an accuser with seven dealers", x.look(3), 7);
        for (int dealer = 1; dealer <= 7; dealer++) {
            complaintIs(x, 6 + dealer, 3, dealer);
        }
        CHECK.due("about(2)", x.about(2), 7);
        CHECK.due("look(5)", x.look(5), 0);
    }

    private static void aSilentOneIsNoDealer() {
        KeyCustody x = Check.dealt(1);
        x.fault(4, 4);
        CHECK.due("look(4) of an accuser", x.look(4), 0);
        x.deal(2, 1, 1, 1);
        CHECK.due("look(4) with another dealer", x.look(4), 1);
        complaintIs(x, 1, 4, 2);
    }

    private static void itselfIsADealerToo() {
        KeyCustody x = Check.dealt(4);
        CHECK.due("look of an accuser that dealt", x.look(1), 1);
        complaintIs(x, 1, 1, 1);
        CHECK.due("look of an honest one that dealt", Check.dealt(0).look(1), 0);
    }

    private static void complaintsComeInTheOrderOfSeats() {
        KeyCustody x = Check.founded();
        x.fault(4, 4);
        x.fault(6, 1);
        x.deal(7, 1, 2, 3);
        x.deal(6, 1, 2, 3);
        x.deal(4, 1, 2, 3);
        x.deal(1, 1, 2, 3);
        CHECK.due("look(4)", x.look(4), 3);
        complaintIs(x, 3, 4, 1);
        complaintIs(x, 4, 4, 4);
        complaintIs(x, 5, 4, 7);
    }

    private static void onceAWeekOfEach() {
        KeyCustody x = Check.dealt(5);
        x.fault(2, 4);
        CHECK.due("look(2)", x.look(2), 1);
        CHECK.due("look(2) again", x.look(2), 0);
        x.deal(3, 1, 1, 1);
        CHECK.due("look(2) with a new dealer", x.look(2), 1);
        CHECK.due("answer(1, 2)", x.answer(1, 2), true);
        CHECK.due("look(2) behind an answer", x.look(2), 0);
        CHECK.due("about(2)", x.about(2), 2);
        x.fault(4, 4);
        CHECK.due("look(4): another keeper of the same dealers", x.look(4), 2);
        KeyCustody liar = Check.dealt(2);
        liar.look(2);
        liar.answer(1, 2);
        CHECK.due("look(2) behind an answer that settles nothing", liar.look(2), 0);
    }

    private static void theNextWeekHasNoOldComplaints() {
        KeyCustody x = Check.dealt(5);
        x.look(2);
        x.answer(1, 2);
        x.close();
        CHECK.due("look(2) when nobody dealt", x.look(2), 0);
        x.fault(1, 2);
        x.deal(1, 1, 1, 1);
        CHECK.due("look(2) in the next week", x.look(2), 1);
        CHECK.due("about(2) in the next week", x.about(2), 1);
        complaintIs(x, 4, 2, 1);
    }

    /** So many posts ahead of the last six dealings, those of seats 2 to 7; 3 is an accuser. */
    private static KeyCustody allDealt(int posts) {
        KeyCustody x = Check.boardWith(posts);
        x.fault(3, 4);
        for (int seat = 7; seat >= 2; seat--) {
            x.deal(seat, 1, 1, 1);
        }
        return x;
    }

    /** Seats 1 and 2 have dealt, 2 carelessly; 4 is an accuser. */
    private static KeyCustody twoDealt(int posts) {
        KeyCustody x = Check.boardWith(posts - 1);
        x.fault(2, 5);
        x.fault(4, 4);
        x.deal(2, 1, 1, 1);
        return x;
    }

    private static void thereIsRoomForAllOrForNone() {
        CHECK.due("two with room for two", twoDealt(248).look(4), 2);
        CHECK.refused("two with room for one", Check.NOT_NOW, () -> twoDealt(249), "look", 4);
        CHECK.refused("two with room for none", Check.NOT_NOW, () -> twoDealt(250), "look", 4);
        CHECK.due("one with room for one", twoDealt(249).look(3), 1);
        CHECK.refused("one with room for none", Check.NOT_NOW, () -> twoDealt(250), "look", 3);
        KeyCustody seven = allDealt(237);
        CHECK.due("seven with room for seven", seven.look(3), 7);
        CHECK.due("about(1)", seven.about(1), 250);
        CHECK.refused("seven with room for six", Check.NOT_NOW, () -> allDealt(238), "look", 3);
        KeyCustody x = twoDealt(249);
        Calls.outcome(x, "look", 4);
        CHECK.due("about(1): none is posted", x.about(1), 249);
        CHECK.due("about(2): none is posted", x.about(2), 0);
        CHECK.due("look(3) behind a refused one", x.look(3), 1);
        KeyCustody early = Check.boardWith(247);
        early.fault(4, 4);
        CHECK.due("look(4)", early.look(4), 1);
        early.deal(2, 1, 1, 1);
        CHECK.due("look(4) with room for the new one alone", early.look(4), 1);
        CHECK.due("about(1)", early.about(1), 250);
    }

    private static void aFullBoardTakesALookWithoutComplaints() {
        KeyCustody x = twoDealt(248);
        CHECK.due("look(4)", x.look(4), 2);
        CHECK.due("about(1)", x.about(1), 250);
        CHECK.due("look(4) again on a full board", x.look(4), 0);
        CHECK.due("look(1) on a full board", x.look(1), 0);
        CHECK.due("look(2) on a full board", x.look(2), 0);
        KeyCustody next = twoDealt(250);
        next.close();
        CHECK.due("look(3) on a full board in the next week", next.look(3), 0);
    }
}
