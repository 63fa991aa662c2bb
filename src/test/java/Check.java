import java.util.Arrays;
import java.util.List;
import java.util.NoSuchElementException;
import java.util.function.Supplier;

/** Counts the answers that are not as due, and ends a test with exit code 1 if there were any. */
final class Check {
    static final Class<IllegalStateException> NOT_FOUNDED = IllegalStateException.class;
    static final Class<NoSuchElementException> NO_SEAT = NoSuchElementException.class;
    static final Class<IllegalArgumentException> WRONG = IllegalArgumentException.class;
    static final Class<IndexOutOfBoundsException> OUTSIDE = IndexOutOfBoundsException.class;
    static final Class<UnsupportedOperationException> NOT_NOW = UnsupportedOperationException.class;

    /** Keeper i's seat is the place in the row, from 1 on. */
    static final int[] FIRST_SHARES = {0, 60, 31, 98, 0, 82, 83, 45};
    /** What is sent by a dealing of 3, 4, 5. */
    static final int[] SENT = {0, 12, 62, 79, 93, 33, 30, 13};

    private int wrong;

    static KeyCustody grouped() {
        KeyCustody custody = new KeyCustody();
        custody.group(607, 101, 64);
        return custody;
    }

    /** Key 42; FIRST_SHARES are its shares. */
    static KeyCustody founded() {
        KeyCustody custody = grouped();
        custody.found(42, 5, 6, 7);
        return custody;
    }

    /** Seat 1 is of this kind and has dealt 3, 4, 5. */
    static KeyCustody dealt(int kind) {
        return dealt(1, kind);
    }

    static KeyCustody dealt(int dealer, int kind) {
        KeyCustody custody = founded();
        custody.fault(dealer, kind);
        custody.deal(dealer, 3, 4, 5);
        return custody;
    }

    /** One dealing of seat 1 and answers to seat 2, until the board has that many posts. */
    static KeyCustody boardWith(int posts) {
        KeyCustody custody = dealt(0);
        for (int n = 1; n < posts; n++) {
            custody.answer(1, 2);
        }
        return custody;
    }

    /** Something of everything, in week 2: posts, faults, open and settled complaints, a wiped share. */
    static KeyCustody busy() {
        KeyCustody custody = dealt(5);
        custody.look(2);
        custody.answer(1, 2);
        custody.close();
        custody.fault(1, 2);
        custody.fault(4, 4);
        custody.fault(6, 1);
        custody.deal(1, 1, 2, 3);
        custody.deal(6, 4, 5, 6);
        custody.deal(7, 7, 8, 9);
        custody.look(2);
        custody.look(4);
        custody.answer(7, 4);
        custody.wipe(3);
        return custody;
    }

    void due(String call, int got, int want) {
        if (got != want) {
            report(call, Integer.toString(got), Integer.toString(want));
        }
    }

    void due(String call, boolean got, boolean want) {
        if (got != want) {
            report(call, Boolean.toString(got), Boolean.toString(want));
        }
    }

    /** The call throws this and changes nothing: behind it, the object answers as one made alike without it. */
    void refused(String when, Class<? extends RuntimeException> want, Supplier<KeyCustody> maker, String name,
            int... with) {
        String call = name + Arrays.toString(with) + ", " + when + ",";
        KeyCustody custody = maker.get();
        String got = Calls.outcome(custody, name, with);
        if (!got.equals(want.getSimpleName())) {
            report(call, got, want.getSimpleName());
        }
        alike("behind the refused " + call, custody, maker.get());
    }

    /** Whether one object answers as the other from now on; it tells the first call that they differ in. */
    void alike(String when, KeyCustody custody, KeyCustody other) {
        List<String> got = Probe.answers(custody);
        List<String> want = Probe.answers(other);
        for (int i = 0; i < Math.min(got.size(), want.size()); i++) {
            if (!got.get(i).equals(want.get(i))) {
                report(when, got.get(i), want.get(i));
                return;
            }
        }
    }

    private void report(String call, String got, String want) {
        wrong++;
        System.out.println(call + " answered " + got + ", due is " + want);
    }

    void end() {
        System.out.println(wrong == 0 ? "all answers are as due" : wrong + " answers are not as due");
        if (wrong != 0) {
            System.exit(1);
        }
    }
}
