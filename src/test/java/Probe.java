import java.util.ArrayList;
import java.util.Arrays;
import java.util.List;

/**
 * Everything that an object answers from now on, what can be read and what only further calls bring out: kinds,
 * shares that were sent, complaints. It takes some 270 calls, on a full board 220, so that an object that was
 * made with as many stays within its 512.
 */
final class Probe {
    private final KeyCustody x;
    private final List<String> answers = new ArrayList<>();

    private Probe(KeyCustody custody) {
        x = custody;
    }

    static List<String> answers(KeyCustody custody) {
        Probe probe = new Probe(custody);
        probe.readAll();
        if (custody.about(0) == 0) {
            probe.ask("found", 1, 2, 3, 4);
        }
        probe.passTheWeek();
        probe.readAll();
        probe.recoverAll();
        return probe.answers;
    }

    private void readAll() {
        for (int what = 0; what <= 6; what++) {
            ask("about", what);
        }
        for (int seat = 1; seat <= 7; seat++) {
            ask("share", seat);
            ask("fits", seat);
            ask("element", seat);
        }
        for (int j = 0; j <= 3; j++) {
            ask("sum", j);
        }
        int posts = x.about(1);
        for (int n : new int[] {0, 1, posts - 2, posts - 1}) {
            for (int what = 0; what <= 8; what++) {
                ask("post", n, what);
            }
        }
    }

    private void passTheWeek() {
        for (int seat = 1; seat <= 7; seat++) {
            ask("deal", seat, 1, 2, 3);
        }
        for (int seat = 1; seat <= 7; seat++) {
            ask("look", seat);
        }
        for (int dealer = 1; dealer <= 7; dealer++) {
            for (int keeper = 1; keeper <= 7; keeper++) {
                String settled = ask("answer", dealer, keeper);
                if (!settled.endsWith("Exception")) {
                    ask("post", x.about(1) - 1, 3);
                }
            }
        }
        ask("close");
    }

    private void recoverAll() {
        for (int seat = 1; seat <= 7; seat++) {
            ask("recover", seat);
            ask("share", seat);
        }
    }

    private String ask(String name, int... with) {
        String got = Calls.outcome(x, name, with);
        answers.add(name + Arrays.toString(with) + " answers " + got);
        return got;
    }
}
