import java.util.Arrays;
import java.util.NoSuchElementException;

/** A key that seven keepers hold in shares which are made anew week by week. */
public final class KeyCustody {
    public static final int NONE = -1;

    private static final int SEATS = 7;
    private static final int EVERYBODY = (1 << SEATS) - 1;
    private static final int PLACES = 4;
    private static final int MOST_FAULTY = 3;

    private static final int HONEST = 0;
    private static final int SILENT = 1;
    private static final int LIAR = 2;
    private static final int SHIFTED = 3;
    private static final int ACCUSER = 4;
    private static final int CARELESS = 5;
    private static final int STUBBORN = 6;

    private static final int DEALING = 1;
    private static final int COMPLAINT = 2;
    private static final int ANSWER = 3;

    private final Group group;
    private final Board board;
    private final Week week;
    private final int[] shares;
    private final int[] sums;
    private final int[] founding;
    /** 0 as long as nothing is founded. */
    private int weekNumber;

    public KeyCustody() {
        group = new Group();
        board = new Board();
        week = new Week(group);
        shares = new int[SEATS + 1];
        sums = new int[PLACES];
        founding = new int[PLACES];
        weekNumber = 0;
    }

    public void group(int p, int q, int g) throws IllegalArgumentException {
        if (!Group.isGroup(p, q, g)) {
            throw new IllegalArgumentException();
        }
        group.become(p, q, g);
        board.empty();
        week.begin();
        Arrays.fill(shares, 0);
        Arrays.fill(sums, 0);
        weekNumber = 0;
    }

    public void found(int a, int b, int c, int d) throws IllegalStateException, IllegalArgumentException {
        if (!group.stands()) {
            throw new IllegalStateException();
        }
        if (!group.isNumber(a) || !group.areNumbers(b, c, d)) {
            throw new IllegalArgumentException();
        }
        writeRow(founding, a, b, c, d);
        group.commitTo(founding, sums);
        for (int seat = 1; seat <= SEATS; seat++) {
            shares[seat] = group.valueAt(seat, founding);
        }
        board.empty();
        week.begin();
        weekNumber = 1;
    }

    public void fault(int keeper, int kind) throws IllegalStateException, NoSuchElementException,
            IllegalArgumentException, UnsupportedOperationException {
        requireFounded();
        requireSeat(keeper);
        if (kind < HONEST || kind > STUBBORN) {
            throw new IllegalArgumentException();
        }
        if (week.hasDealt(keeper) || week.isOneTooMany(keeper, kind)) {
            throw new UnsupportedOperationException();
        }
        week.turn(keeper, kind);
    }

    public void deal(int keeper, int b, int c, int d) throws IllegalStateException, NoSuchElementException,
            IllegalArgumentException, UnsupportedOperationException {
        requireFounded();
        requireSeat(keeper);
        if (!group.areNumbers(b, c, d)) {
            throw new IllegalArgumentException();
        }
        if (week.hasDealt(keeper) || board.room() == 0) {
            throw new UnsupportedOperationException();
        }
        if (week.isSilent(keeper)) {
            week.passOver(keeper);
        } else {
            week.sendOut(keeper, b, c, d);
            board.addDealing(keeper, weekNumber, week.commitmentsOf(keeper));
        }
    }

    public int look(int keeper) throws IllegalStateException, NoSuchElementException,
            UnsupportedOperationException {
        requireFounded();
        requireSeat(keeper);
        int accused = week.accusedBy(keeper);
        int count = Integer.bitCount(accused);
        if (count > board.room()) {
            throw new UnsupportedOperationException();
        }
        for (int dealer = 1; dealer <= SEATS; dealer++) {
            if (isAmong(accused, dealer)) {
                week.complain(keeper, dealer);
                board.add(COMPLAINT, keeper, dealer, 0, weekNumber);
            }
        }
        return count;
    }

    public boolean answer(int dealer, int keeper) throws IllegalStateException, NoSuchElementException,
            IllegalArgumentException, UnsupportedOperationException {
        requireFounded();
        requireSeat(dealer);
        requireSeat(keeper);
        if (!isAmong(week.dealers(), dealer)) {
            throw new IllegalArgumentException();
        }
        if (board.room() == 0) {
            throw new UnsupportedOperationException();
        }
        int shown = week.shownBy(dealer, keeper);
        if (shown == NONE) {
            return false;
        }
        board.add(ANSWER, dealer, keeper, shown, weekNumber);
        return week.settle(dealer, keeper, shown);
    }

    public int close() throws IllegalStateException {
        requireFounded();
        int accepted = week.accepted();
        for (int dealer = 1; dealer <= SEATS; dealer++) {
            if (isAmong(accepted, dealer)) {
                takeOver(dealer);
            }
        }
        week.begin();
        weekNumber++;
        return accepted;
    }

    public void wipe(int keeper) throws IllegalStateException, NoSuchElementException,
            UnsupportedOperationException {
        requireFounded();
        requireSeat(keeper);
        if (isWiped(keeper)) {
            throw new UnsupportedOperationException();
        }
        shares[keeper] = NONE;
    }

    public int recover(int keeper) throws IllegalStateException, NoSuchElementException,
            UnsupportedOperationException {
        requireFounded();
        requireSeat(keeper);
        if (!isWiped(keeper)) {
            throw new UnsupportedOperationException();
        }
        // The keeper is wiped, so it is never one of its own helpers.
        int helpers = sound();
        if (Integer.bitCount(helpers) < PLACES) {
            throw new UnsupportedOperationException();
        }
        int chosen = leastFour(helpers);
        shares[keeper] = group.interpolate(keeper, chosen, shares);
        return chosen;
    }

    public int share(int keeper) throws IllegalStateException, NoSuchElementException {
        requireFounded();
        requireSeat(keeper);
        return shares[keeper];
    }

    public boolean fits(int keeper) throws IllegalStateException, NoSuchElementException {
        requireFounded();
        requireSeat(keeper);
        return isSound(keeper);
    }

    public int sum(int j) throws IllegalStateException, IndexOutOfBoundsException {
        requireFounded();
        if (j < 0 || j >= PLACES) {
            throw new IndexOutOfBoundsException();
        }
        return sums[j];
    }

    public int element(int keeper) throws IllegalStateException, NoSuchElementException {
        requireFounded();
        requireSeat(keeper);
        return group.elementAt(keeper, sums);
    }

    public int reconstruct(int some) throws IllegalStateException, IllegalArgumentException {
        requireFounded();
        if (some < 0 || some > EVERYBODY || Integer.bitCount(some) < PLACES || (some & wiped()) != 0) {
            throw new IllegalArgumentException();
        }
        return group.interpolate(0, leastFour(some), shares);
    }

    public int post(int n, int what) throws IllegalStateException, IndexOutOfBoundsException,
            IllegalArgumentException {
        requireFounded();
        if (n < 0 || n >= board.size()) {
            throw new IndexOutOfBoundsException();
        }
        if (what < 0 || what >= Board.WIDTH) {
            throw new IllegalArgumentException();
        }
        return board.read(n, what);
    }

    public int about(int what) throws IllegalArgumentException {
        switch (what) {
            case 0:
                return weekNumber;
            case 1:
                return board.size();
            case 2:
                return week.complaintCount();
            case 3:
                return week.settledCount();
            case 4:
                return week.dealers();
            case 5:
                return wiped();
            case 6:
                return week.faulty();
            default:
                throw new IllegalArgumentException();
        }
    }

    private void requireFounded() {
        if (weekNumber == 0) {
            throw new IllegalStateException();
        }
    }

    private static void requireSeat(int seat) {
        if (seat < 1 || seat > SEATS) {
            throw new NoSuchElementException();
        }
    }

    private void takeOver(int dealer) {
        for (int keeper = 1; keeper <= SEATS; keeper++) {
            if (!isWiped(keeper)) {
                shares[keeper] = group.addNumbers(shares[keeper], week.hadFrom(dealer, keeper));
            }
        }
        int[] commitments = week.commitmentsOf(dealer);
        for (int place = 0; place < PLACES; place++) {
            sums[place] = group.multiply(sums[place], commitments[place]);
        }
    }

    private boolean isWiped(int keeper) {
        return shares[keeper] == NONE;
    }

    private boolean isSound(int keeper) {
        return !isWiped(keeper) && group.agree(keeper, sums, shares[keeper]);
    }

    private int wiped() {
        int some = 0;
        for (int seat = 1; seat <= SEATS; seat++) {
            if (isWiped(seat)) {
                some |= bit(seat);
            }
        }
        return some;
    }

    private int sound() {
        int some = 0;
        for (int seat = 1; seat <= SEATS; seat++) {
            if (isSound(seat)) {
                some |= bit(seat);
            }
        }
        return some;
    }

    private static int leastFour(int some) {
        int chosen = 0;
        for (int seat = 1; seat <= SEATS; seat++) {
            if (isAmong(some, seat) && Integer.bitCount(chosen) < PLACES) {
                chosen |= bit(seat);
            }
        }
        return chosen;
    }

    private static int bit(int seat) {
        return 1 << (seat - 1);
    }

    private static boolean isAmong(int some, int seat) {
        return (some & bit(seat)) != 0;
    }

    private static void writeRow(int[] row, int a, int b, int c, int d) {
        row[0] = a;
        row[1] = b;
        row[2] = c;
        row[3] = d;
    }

    /** The reckoning: numbers modulo q, elements modulo p. */
    private static final class Group {
        private static final int LEAST_ORDER = 11;
        private static final int GREATEST_ORDER = 32749;

        // 1 and not 0 while there is no group, so that no state divides by zero.
        private int p = 1;
        private int q = 1;
        private int g = 1;

        static boolean isGroup(int p, int q, int g) {
            if (q < LEAST_ORDER || q > GREATEST_ORDER || p <= q || (p - 1) % q != 0) {
                return false;
            }
            if (g < 2 || g >= p || power(g, q, p) != 1) {
                return false;
            }
            // Trial division of p costs most, so it comes last.
            return isPrime(q) && isPrime(p);
        }

        /** Trial division; primes above 3 are one more or one less than a multiple of 6. */
        private static boolean isPrime(int n) {
            if (n < 5) {
                return n == 2 || n == 3;
            }
            if (n % 2 == 0 || n % 3 == 0) {
                return false;
            }
            // d stays below 46341, the root of the greatest int, so d + 2 can't wrap around.
            for (int d = 5; d <= n / d; d += 6) {
                if (n % d == 0 || n % (d + 2) == 0) {
                    return false;
                }
            }
            return true;
        }

        /** The modulus is below 2^31, so a product of two rests fits a long. */
        private static int power(int base, int exponent, int modulus) {
            long result = 1 % modulus;
            long square = base % modulus;
            for (int left = exponent; left > 0; left >>= 1) {
                if ((left & 1) != 0) {
                    result = result * square % modulus;
                }
                square = square * square % modulus;
            }
            return (int) result;
        }

        void become(int newP, int newQ, int newG) {
            p = newP;
            q = newQ;
            g = newG;
        }

        boolean stands() {
            return q > 1;
        }

        boolean isNumber(int a) {
            return a >= 0 && a < q;
        }

        boolean areNumbers(int b, int c, int d) {
            return isNumber(b) && isNumber(c) && isNumber(d);
        }

        int addNumbers(int a, int b) {
            return (a + b) % q;
        }

        private int multiplyNumbers(int a, int b) {
            return (int) ((long) a * b % q);
        }

        int multiply(int a, int b) {
            return (int) ((long) a * b % p);
        }

        int valueAt(int x, int[] coefficients) {
            int value = 0;
            for (int place = PLACES - 1; place >= 0; place--) {
                value = addNumbers(multiplyNumbers(value, x), coefficients[place]);
            }
            return value;
        }

        void commitTo(int[] coefficients, int[] commitments) {
            for (int place = 0; place < PLACES; place++) {
                commitments[place] = power(g, coefficients[place], p);
            }
        }

        /** What g to the value at a seat must be, by the commitments. */
        int elementAt(int seat, int[] commitments) {
            int product = 1;
            int exponent = 1;
            for (int place = 0; place < PLACES; place++) {
                product = multiply(product, power(commitments[place], exponent, p));
                exponent *= seat;
            }
            return product;
        }

        boolean agree(int seat, int[] commitments, int number) {
            return power(g, number, p) == elementAt(seat, commitments);
        }

        /** The value at x of the least polynomial through the values at the chosen seats. */
        int interpolate(int x, int chosen, int[] values) {
            int value = 0;
            for (int seat = 1; seat <= SEATS; seat++) {
                if (isAmong(chosen, seat)) {
                    value = addNumbers(value, multiplyNumbers(values[seat], weight(x, chosen, seat)));
                }
            }
            return value;
        }

        /** Seats are less than q apart, so the divisor has an inverse: its power q - 2. */
        private int weight(int x, int chosen, int seat) {
            int dividend = 1;
            int divisor = 1;
            for (int other = 1; other <= SEATS; other++) {
                if (other != seat && isAmong(chosen, other)) {
                    dividend = multiplyNumbers(dividend, Math.floorMod(x - other, q));
                    divisor = multiplyNumbers(divisor, Math.floorMod(seat - other, q));
                }
            }
            return multiplyNumbers(dividend, power(divisor, q - 2, q));
        }
    }

    /** What is so until the week is closed; keepers and dealers are named by their seats. */
    private static final class Week {
        private final Group group;
        private final int[] kinds = new int[SEATS + 1];
        private final int[][] coefficients = new int[SEATS + 1][PLACES];
        private final int[][] commitments = new int[SEATS + 1][PLACES];
        /** By dealer, then by keeper. */
        private final int[][] had = new int[SEATS + 1][SEATS + 1];
        /** By dealer: who complained of them, and whose complaints are settled. */
        private final int[] complainers = new int[SEATS + 1];
        private final int[] contented = new int[SEATS + 1];
        private int done;
        private int dealers;

        Week(Group reckoning) {
            group = reckoning;
        }

        /** The rows of a dealing stay as they are: nobody reads them before the next dealing. */
        void begin() {
            Arrays.fill(kinds, HONEST);
            Arrays.fill(complainers, 0);
            Arrays.fill(contented, 0);
            done = 0;
            dealers = 0;
        }

        boolean hasDealt(int keeper) {
            return isAmong(done, keeper);
        }

        boolean isOneTooMany(int keeper, int kind) {
            return kind != HONEST && Integer.bitCount(faulty() | bit(keeper)) > MOST_FAULTY;
        }

        void turn(int keeper, int kind) {
            kinds[keeper] = kind;
        }

        int faulty() {
            int some = 0;
            for (int seat = 1; seat <= SEATS; seat++) {
                if (kinds[seat] != HONEST) {
                    some |= bit(seat);
                }
            }
            return some;
        }

        boolean isSilent(int keeper) {
            return kinds[keeper] == SILENT;
        }

        void passOver(int keeper) {
            done |= bit(keeper);
        }

        void sendOut(int dealer, int b, int c, int d) {
            writeRow(coefficients[dealer], kinds[dealer] == SHIFTED ? 1 : 0, b, c, d);
            group.commitTo(coefficients[dealer], commitments[dealer]);
            for (int keeper = 1; keeper <= SEATS; keeper++) {
                int right = rightShare(dealer, keeper);
                had[dealer][keeper] = isCheated(dealer, keeper) ? group.addNumbers(right, 1) : right;
            }
            done |= bit(dealer);
            dealers |= bit(dealer);
        }

        private int rightShare(int dealer, int keeper) {
            return group.valueAt(keeper, coefficients[dealer]);
        }

        private boolean isCheated(int dealer, int keeper) {
            int kind = kinds[dealer];
            return keeper == dealer % SEATS + 1 && (kind == LIAR || kind == CARELESS || kind == STUBBORN);
        }

        int dealers() {
            return dealers;
        }

        int[] commitmentsOf(int dealer) {
            return commitments[dealer];
        }

        int hadFrom(int dealer, int keeper) {
            return had[dealer][keeper];
        }

        /** Of whom the keeper would complain now, for the first time in this week. */
        int accusedBy(int keeper) {
            int some = 0;
            for (int dealer = 1; dealer <= SEATS; dealer++) {
                if (isAmong(dealers, dealer) && !isAmong(complainers[dealer], keeper)
                        && objectsTo(keeper, dealer)) {
                    some |= bit(dealer);
                }
            }
            return some;
        }

        private boolean objectsTo(int keeper, int dealer) {
            return kinds[keeper] == ACCUSER
                    || !group.agree(keeper, commitments[dealer], had[dealer][keeper]);
        }

        void complain(int keeper, int dealer) {
            complainers[dealer] |= bit(keeper);
        }

        /** NONE if nothing is shown: one that is stubborn answers nobody. */
        int shownBy(int dealer, int keeper) {
            if (kinds[dealer] == STUBBORN) {
                return NONE;
            }
            int right = rightShare(dealer, keeper);
            boolean lies = kinds[dealer] == LIAR && isCheated(dealer, keeper);
            return lies ? group.addNumbers(right, 1) : right;
        }

        /** Whether this share settles a complaint that was open until now. */
        boolean settle(int dealer, int keeper, int shown) {
            boolean open = isAmong(complainers[dealer] & ~contented[dealer], keeper);
            if (!open || !group.agree(keeper, commitments[dealer], shown)) {
                return false;
            }
            contented[dealer] |= bit(keeper);
            had[dealer][keeper] = shown;
            return true;
        }

        int accepted() {
            int some = 0;
            for (int dealer = 1; dealer <= SEATS; dealer++) {
                if (isAmong(dealers, dealer) && commitments[dealer][0] == 1
                        && complainers[dealer] == contented[dealer]) {
                    some |= bit(dealer);
                }
            }
            return some;
        }

        int complaintCount() {
            return countAll(complainers);
        }

        int settledCount() {
            return countAll(contented);
        }

        private static int countAll(int[] keepers) {
            int count = 0;
            for (int dealer = 1; dealer <= SEATS; dealer++) {
                count += Integer.bitCount(keepers[dealer]);
            }
            return count;
        }
    }

    /** The posts, one behind the other in one row, each as wide as what can be asked of it. */
    private static final class Board {
        private static final int LIMIT = 250;
        private static final int WIDTH = 9;
        private static final int FIRST_COMMITMENT = 5;

        private final int[] cells = new int[LIMIT * WIDTH];
        private int size;

        void empty() {
            size = 0;
        }

        int size() {
            return size;
        }

        int room() {
            return LIMIT - size;
        }

        int read(int n, int what) {
            return cells[n * WIDTH + what];
        }

        /** Callers look at room() first; a full board stays as it is. */
        void add(int kind, int by, int whom, int number, int week) {
            if (size >= LIMIT) {
                return;
            }
            int start = size * WIDTH;
            cells[start] = kind;
            cells[start + 1] = by;
            cells[start + 2] = whom;
            cells[start + 3] = number;
            cells[start + 4] = week;
            // An emptied board leaves old commitments behind.
            for (int what = FIRST_COMMITMENT; what < WIDTH; what++) {
                cells[start + what] = 0;
            }
            size++;
        }

        void addDealing(int by, int week, int[] commitments) {
            if (size >= LIMIT) {
                return;
            }
            int start = size * WIDTH + FIRST_COMMITMENT;
            add(DEALING, by, 0, 0, week);
            System.arraycopy(commitments, 0, cells, start, PLACES);
        }
    }
}
