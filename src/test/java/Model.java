import java.math.BigInteger;
import java.util.ArrayList;
import java.util.HashMap;
import java.util.List;
import java.util.Map;
import java.util.TreeMap;
import java.util.TreeSet;

/**
 * A second telling of the document for ModelTest. It knows the polynomials behind all commitments and never
 * reckons with commitments: a number fits just if it is the polynomial's value, as g has the order q.
 */
final class Model {
    private static final String STATE = "IllegalStateException";
    private static final String SEAT = "NoSuchElementException";
    private static final String WRONG = "IllegalArgumentException";
    private static final String OUTSIDE = "IndexOutOfBoundsException";
    private static final String NOT_NOW = "UnsupportedOperationException";
    private static final String DONE = "done";

    private int p;
    private int q;
    private int g;
    private int week;
    private long[] key;
    private final Map<Integer, Long> shares = new TreeMap<>();
    private final Map<Integer, Integer> kinds = new TreeMap<>();
    private final TreeSet<Integer> done = new TreeSet<>();
    private final Map<Integer, long[]> dealings = new TreeMap<>();
    private final Map<String, Long> had = new HashMap<>();
    /** "dealer of keeper", and whether it is settled. */
    private final Map<String, Boolean> complaints = new HashMap<>();
    private final List<long[]> posts = new ArrayList<>();

    String outcome(String call, int[] a) {
        if (call.equals("group")) {
            return group(a[0], a[1], a[2]);
        }
        if (call.equals("about")) {
            return about(a[0]);
        }
        if (call.equals("found")) {
            return p == 0 ? STATE : found(a);
        }
        if (week == 0) {
            return STATE;
        }
        switch (call) {
            case "close": return close();
            case "sum": return a[0] < 0 || a[0] > 3 ? OUTSIDE : "" + element(key[a[0]]);
            case "reconstruct": return reconstruct(a[0]);
            case "post": return post(a[0], a[1]);
            default: return ofSeat(call, a);
        }
    }

    private String ofSeat(String call, int[] a) {
        if (isNoSeat(a[0]) || call.equals("answer") && isNoSeat(a[1])) {
            return SEAT;
        }
        int seat = a[0];
        switch (call) {
            case "fault": return fault(seat, a[1]);
            case "deal": return deal(a);
            case "look": return look(seat);
            case "answer": return answer(seat, a[1]);
            case "wipe": return shares.remove(seat) == null ? NOT_NOW : DONE;
            case "recover": return recover(seat);
            case "share": return "" + shares.getOrDefault(seat, -1L);
            case "fits": return "" + isRight(seat);
            default: return "" + element(value(key, seat));
        }
    }

    private static boolean isNoSeat(int seat) {
        return seat < 1 || seat > 7;
    }

    private String group(int newP, int newQ, int newG) {
        boolean inBounds = newQ >= 11 && newQ <= 32749 && newP > 1 && newG >= 2 && newG < newP;
        if (!inBounds || !big(newP).isProbablePrime(40) || !big(newQ).isProbablePrime(40)
                || (newP - 1) % newQ != 0 || !big(newG).modPow(big(newQ), big(newP)).equals(BigInteger.ONE)) {
            return WRONG;
        }
        p = newP;
        q = newQ;
        g = newG;
        week = 0;
        shares.clear();
        posts.clear();
        beginWeek();
        return DONE;
    }

    private String found(int[] a) {
        if (areNoNumbers(a, 0)) {
            return WRONG;
        }
        key = new long[] {a[0], a[1], a[2], a[3]};
        for (int seat = 1; seat <= 7; seat++) {
            shares.put(seat, value(key, seat));
        }
        week = 1;
        posts.clear();
        beginWeek();
        return DONE;
    }

    private void beginWeek() {
        kinds.clear();
        done.clear();
        dealings.clear();
        had.clear();
        complaints.clear();
    }

    private boolean areNoNumbers(int[] a, int from) {
        for (int i = from; i < 4; i++) {
            if (a[i] < 0 || a[i] >= q) {
                return true;
            }
        }
        return false;
    }

    private String fault(int seat, int kind) {
        if (kind < 0 || kind > 6) {
            return WRONG;
        }
        boolean fourth = kind != 0 && !kinds.containsKey(seat) && kinds.size() == 3;
        if (done.contains(seat) || fourth) {
            return NOT_NOW;
        }
        if (kind == 0) {
            kinds.remove(seat);
        } else {
            kinds.put(seat, kind);
        }
        return DONE;
    }

    private int kind(int seat) {
        return kinds.getOrDefault(seat, 0);
    }

    private String deal(int[] a) {
        if (areNoNumbers(a, 1)) {
            return WRONG;
        }
        int dealer = a[0];
        if (done.contains(dealer) || posts.size() == 250) {
            return NOT_NOW;
        }
        done.add(dealer);
        if (kind(dealer) == 1) {
            return DONE;
        }
        long[] dealing = {kind(dealer) == 3 ? 1 : 0, a[1], a[2], a[3]};
        dealings.put(dealer, dealing);
        for (int keeper = 1; keeper <= 7; keeper++) {
            had.put(dealer + " " + keeper, value(dealing, keeper));
        }
        if (kind(dealer) == 2 || kind(dealer) >= 5) {
            int next = dealer == 7 ? 1 : dealer + 1;
            had.merge(dealer + " " + next, 1L, (one, more) -> (one + more) % q);
        }
        posts.add(new long[] {1, dealer, 0, 0, week, element(dealing[0]), element(dealing[1]),
            element(dealing[2]), element(dealing[3])});
        return DONE;
    }

    private String look(int keeper) {
        List<Integer> accused = new ArrayList<>();
        for (Map.Entry<Integer, long[]> dealing : dealings.entrySet()) {
            String pair = dealing.getKey() + " " + keeper;
            boolean wrong = kind(keeper) == 4 || had.get(pair) != value(dealing.getValue(), keeper);
            if (wrong && !complaints.containsKey(pair)) {
                accused.add(dealing.getKey());
            }
        }
        if (posts.size() + accused.size() > 250) {
            return NOT_NOW;
        }
        for (int dealer : accused) {
            complaints.put(dealer + " " + keeper, false);
            posts.add(new long[] {2, keeper, dealer, 0, week, 0, 0, 0, 0});
        }
        return "" + accused.size();
    }

    private String answer(int dealer, int keeper) {
        if (!dealings.containsKey(dealer)) {
            return WRONG;
        }
        if (posts.size() == 250) {
            return NOT_NOW;
        }
        if (kind(dealer) == 6) {
            return "false";
        }
        String pair = dealer + " " + keeper;
        boolean lie = kind(dealer) == 2 && keeper == (dealer == 7 ? 1 : dealer + 1);
        long right = value(dealings.get(dealer), keeper);
        posts.add(new long[] {3, dealer, keeper, lie ? (right + 1) % q : right, week, 0, 0, 0, 0});
        if (lie || complaints.getOrDefault(pair, true)) {
            return "false";
        }
        complaints.put(pair, true);
        had.put(pair, right);
        return "true";
    }

    private String close() {
        List<Integer> accepted = new ArrayList<>();
        for (int dealer : dealings.keySet()) {
            boolean open = complaints.entrySet().stream()
                .anyMatch(one -> one.getKey().startsWith(dealer + " ") && !one.getValue());
            if (!open && kind(dealer) != 3) {
                accepted.add(dealer);
            }
        }
        for (int dealer : accepted) {
            shares.replaceAll((keeper, share) -> (share + had.get(dealer + " " + keeper)) % q);
            for (int j = 0; j < 4; j++) {
                key[j] = (key[j] + dealings.get(dealer)[j]) % q;
            }
        }
        week++;
        beginWeek();
        return "" + asSum(accepted);
    }

    private String recover(int keeper) {
        List<Integer> helpers = new ArrayList<>();
        for (int seat : shares.keySet()) {
            if (isRight(seat) && helpers.size() < 4) {
                helpers.add(seat);
            }
        }
        if (shares.containsKey(keeper) || helpers.size() < 4) {
            return NOT_NOW;
        }
        // Four right shares give the right one.
        shares.put(keeper, value(key, keeper));
        return "" + asSum(helpers);
    }

    private boolean isRight(int seat) {
        return shares.containsKey(seat) && shares.get(seat) == value(key, seat);
    }

    private String reconstruct(int some) {
        List<Integer> seats = new ArrayList<>();
        for (int seat = 1; seat <= 7; seat++) {
            if ((some >> (seat - 1)) % 2 != 0) {
                seats.add(seat);
            }
        }
        if (some < 0 || some > 127 || seats.size() < 4 || !shares.keySet().containsAll(seats)) {
            return WRONG;
        }
        return "" + newtonAtZero(seats.subList(0, 4));
    }

    /** Newton's divided differences, where the program uses Lagrange's weights. */
    private long newtonAtZero(List<Integer> seats) {
        BigInteger[] differences = new BigInteger[4];
        for (int i = 0; i < 4; i++) {
            differences[i] = BigInteger.valueOf(shares.get(seats.get(i)));
        }
        for (int level = 1; level < 4; level++) {
            for (int i = 3; i >= level; i--) {
                BigInteger apart = big(seats.get(i) - seats.get(i - level)).modInverse(big(q));
                differences[i] = differences[i].subtract(differences[i - 1]).multiply(apart).mod(big(q));
            }
        }
        BigInteger value = differences[3];
        for (int i = 2; i >= 0; i--) {
            value = value.multiply(big(-seats.get(i))).add(differences[i]).mod(big(q));
        }
        return value.longValue();
    }

    private String post(int n, int what) {
        if (n < 0 || n >= posts.size()) {
            return OUTSIDE;
        }
        return what < 0 || what > 8 ? WRONG : "" + posts.get(n)[what];
    }

    private String about(int what) {
        switch (what) {
            case 0: return "" + week;
            case 1: return "" + posts.size();
            case 2: return "" + complaints.size();
            case 3: return "" + complaints.values().stream().filter(settled -> settled).count();
            case 4: return "" + asSum(dealings.keySet());
            case 5: return "" + (week == 0 ? 0 : 127 - asSum(shares.keySet()));
            case 6: return "" + asSum(kinds.keySet());
            default: return WRONG;
        }
    }

    int postCount() {
        return posts.size();
    }

    private static int asSum(Iterable<Integer> seats) {
        int sum = 0;
        for (int seat : seats) {
            sum += (int) Math.pow(2, seat - 1);
        }
        return sum;
    }

    private long value(long[] polynomial, int x) {
        return (polynomial[0] + polynomial[1] * x + polynomial[2] * x * x + polynomial[3] * x * x * x) % q;
    }

    private long element(long number) {
        return big(g).modPow(BigInteger.valueOf(number), big(p)).longValue();
    }

    private static BigInteger big(int number) {
        return BigInteger.valueOf(number);
    }
}
