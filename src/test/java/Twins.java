import java.util.ArrayList;
import java.util.List;

/** Holds a log against its twin, such as one on which a refused call was not made: later calls answer the same. */
final class Twins extends Logs {
    interface Use {
        void on(ForwardLog log);
    }

    interface Ask {
        long of(ForwardLog log);
    }

    /** So many sets of later calls; each has a log of its own, as one log takes 512 calls. */
    private static final int VIEWS = 9;
    private static final int PART = 300;

    private final ForwardLog log = new ForwardLog();
    private final List<String> answers = new ArrayList<>();

    private Twins(Use before) {
        before.on(log);
    }

    static void dueUnchanged(String what, String due, Use before, Ask refused) {
        Use asked = log -> {
            before.on(log);
            for (int time = 1; time <= 2; time++) {
                Checks.dueText(what, due, Checks.answerOf(() -> refused.of(log)));
            }
        };
        dueSame(what, asked, before);
    }

    /** Two ways to bring a log to one state: all later calls answer the same. */
    static void dueSame(String what, Use one, Use other) {
        for (int view = 0; view < VIEWS; view++) {
            Twins first = new Twins(one);
            Twins second = new Twins(other);
            first.look(view);
            second.look(view);
            Checks.dueText(what + ", later calls", second.firstUnlike(first), first.firstUnlike(second));
        }
    }

    private String firstUnlike(Twins other) {
        for (int k = 0; k < answers.size(); k++) {
            if (!answers.get(k).equals(other.answers.get(k))) {
                return answers.get(k);
            }
        }
        return "the same";
    }

    private void look(int view) {
        switch (view) {
            case 0, 1, 2, 3 -> octets(view * PART);
            case 4 -> state();
            case 5 -> records();
            case 6 -> goOn();
            case 7 -> crashAnd(0);
            default -> crashAnd(HIGH);
        }
    }

    private void ask(String what, Checks.Call call) {
        answers.add(what + " answers " + Checks.answerOf(call));
    }

    private void octets(int from) {
        for (int k = from; k < from + PART; k++) {
            int place = k;
            ask("octet " + k, () -> log.octet(place));
        }
    }

    private void state() {
        counts();
        told();
        for (int k = 0; k < 16; k++) {
            int place = k;
            ask("key " + k, () -> log.key(place));
        }
        ask("octet 1200", () -> log.octet(1200));
        ask("erase", log::erase);
    }

    private void counts() {
        for (int k = 0; k < 6; k++) {
            int what = k;
            ask("count " + k, () -> log.count(what));
        }
    }

    private void told() {
        for (int k = 0; k < 5; k++) {
            int what = k;
            ask("told " + k, () -> log.told(what));
        }
    }

    private void records() {
        for (int k = -1; k <= 120; k++) {
            int row = k;
            ask("record " + k + " 1", () -> log.record(row, 1));
        }
        for (int k = 0; k <= 42; k++) {
            int what = k;
            ask("record 0 " + k, () -> log.record(0, what));
            ask("record 1 " + k, () -> log.record(1, what));
        }
    }

    private void goOn() {
        for (int time = 0; time < 3; time++) {
            ask("feed", () -> log.feed(2, 0x71720000, 0, 0, 0));
            ask("append", log::append);
            ask("seal", log::seal);
            ask("erase", log::erase);
            ask("append of none", log::append);
            ask("sync", log::sync);
            counts();
            ask("verify", () -> verifyOf(log));
            told();
            tail();
            ask("recover", log::recover);
        }
    }

    private void crashAnd(int keep) {
        ask("crash", () -> log.crash(keep));
        counts();
        ask("recover", log::recover);
        counts();
        ask("verify", () -> verifyOf(log));
        told();
        goOn();
    }

    /** The disk's last bytes, the tags among them. */
    private void tail() {
        int end = log.count(0);
        for (int k = end - 24; k <= end; k++) {
            int place = k;
            ask("octet " + k, () -> log.octet(place));
        }
    }
}
