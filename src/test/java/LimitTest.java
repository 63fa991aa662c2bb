/** An object's 512 calls: up to the last one, every answer is as due. */
public final class LimitTest {
    private static final int CALLS = 512;
    private static final Check CHECK = new Check();

    public static void main(String[] args) {
        aWeekACall();
        aPostAWeekUntilTheBoardIsFull();
        aGroupACall();
        refusedCallsAlone();
        CHECK.end();
    }

    /** Two calls ahead of the weeks, one behind them. */
    private static void aWeekACall() {
        KeyCustody x = Check.founded();
        for (int week = 1; week <= CALLS - 3; week++) {
            CHECK.due("close() of week " + week, x.close(), 0);
        }
        CHECK.due("about(0), the last call", x.about(0), CALLS - 2);
    }

    private static void aPostAWeekUntilTheBoardIsFull() {
        KeyCustody x = Check.founded();
        for (int week = 1; week <= 250; week++) {
            x.deal(1, 1, 2, 3);
            CHECK.due("close() of week " + week, x.close(), 1);
        }
        CHECK.due("share(1) of 60 and 250 times 6", x.share(1), 45);
        CHECK.due("fits(1)", x.fits(1), true);
        CHECK.due("the week of the last post", x.post(249, 4), 250);
        CHECK.due("about(1)", x.about(1), 250);
        String more = Calls.outcome(x, "deal", 1, 1, 2, 3);
        CHECK.due("deal behind the last place is refused", more.equals("UnsupportedOperationException"), true);
        CHECK.due("about(0)", x.about(0), 251);
        CHECK.due("sum(0)", x.sum(0), 339);
        CHECK.due("reconstruct(127)", x.reconstruct(127), 42);
        CHECK.due("element(1)", x.element(1), 195);
        CHECK.due("wiped, the last call", x.about(5), 0);
    }

    /** The greatest prime is the dearest group to try. */
    private static void aGroupACall() {
        KeyCustody x = new KeyCustody();
        for (int call = 1; call <= CALLS - 2; call++) {
            x.group(2147483647, 11, 298192073);
        }
        x.found(10, 10, 10, 10);
        CHECK.due("reconstruct(127), the last call", x.reconstruct(127), 10);
    }

    private static void refusedCallsAlone() {
        KeyCustody x = Check.founded();
        for (int call = 1; call <= CALLS - 3; call++) {
            Calls.outcome(x, "deal", 1, 1, 1, 101);
        }
        CHECK.due("about(1), the last call", x.about(1), 0);
    }
}
