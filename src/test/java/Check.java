/** Counts the answers that are not as due, and ends a test with exit code 1 if there were any. */
final class Check {
    static final Class<IllegalStateException> NOT_FOUNDED = IllegalStateException.class;
    static final Class<java.util.NoSuchElementException> NO_SEAT = java.util.NoSuchElementException.class;
    static final Class<IllegalArgumentException> WRONG = IllegalArgumentException.class;
    static final Class<IndexOutOfBoundsException> OUTSIDE = IndexOutOfBoundsException.class;
    static final Class<UnsupportedOperationException> NOT_NOW = UnsupportedOperationException.class;

    private int wrong;

    /** Keeper i's seat is the place in the row, from 1 on. */
    static final int[] FIRST_SHARES = {0, 60, 31, 98, 0, 82, 83, 45};

    static KeyCustody grouped() {
        KeyCustody custody = new KeyCustody();
        custody.group(607, 101, 64);
        return custody;
    }

    /** Key 42; FIRST_SHARES are its shares. */
    static KeyCustody founded() {
        KeyCustody custody = grouped();
        custody.found(42, 5, 6, 7);
        return custody;
    }

    /** Seat 1 is of this kind and has dealt 3, 4, 5: the shares 12, 62, 79, 93, 33, 30, 13 by seat. */
    static KeyCustody dealt(int kind) {
        KeyCustody custody = founded();
        custody.fault(1, kind);
        custody.deal(1, 3, 4, 5);
        return custody;
    }

    /** One dealing of seat 1 and answers to seat 2, until the board has that many posts. */
    static KeyCustody boardWith(int posts) {
        KeyCustody custody = dealt(0);
        for (int n = 1; n < posts; n++) {
            custody.answer(1, 2);
        }
        return custody;
    }

    void due(String call, int got, int want) {
        if (got != want) {
            report(call, Integer.toString(got), Integer.toString(want));
        }
    }

    void due(String call, boolean got, boolean want) {
        if (got != want) {
            report(call, Boolean.toString(got), Boolean.toString(want));
        }
    }

    void refused(String call, Class<? extends RuntimeException> want, Runnable made) {
        try {
            made.run();
            report(call, "without an exception", want.getSimpleName());
        } catch (RuntimeException e) {
            if (e.getClass() != want) {
                report(call, e.getClass().getSimpleName(), want.getSimpleName());
            }
        }
    }

    private void report(String call, String got, String want) {
        wrong++;
        System.out.println(call + " answered " + got + ", due is " + want);
    }

    void end() {
        System.out.println(wrong == 0 ? "all answers are as due" : wrong + " answers are not as due");
        if (wrong != 0) {
            System.exit(1);
        }
    }
}
