import java.util.Random;

/** Long runs of calls, good and wild, each answered by the class and by the model; told apart by their seeds. */
final class ModelTest {
    private static final int RUNS = 1500;
    private static final int CALLS = 512;
    private static final int LOOK = 200;
    private static final int[] WILD = {
        Integer.MIN_VALUE, Integer.MIN_VALUE + 7, -2, -1, 0, 1, 4, 5, 6, 7, 8, 15, 16, 17, 40, 42, 43,
        119, 120, 1199, 1200, 1201, Integer.MAX_VALUE - 9, Integer.MAX_VALUE
    };

    private final Random random;
    private final String name;
    private final ForwardLog log = new ForwardLog();
    private final Model model = new Model();
    /** How often, of a hundred calls, a bit is bent, and how often there is a crash. */
    private final int bends;
    private final int crashes;
    private final int[] key = new int[4];
    private int calls = 0;

    private ModelTest(int seed) {
        random = new Random(seed);
        name = "seed " + seed;
        bends = new int[] {0, 0, 2, 6}[random.nextInt(4)];
        crashes = new int[] {0, 3, 8}[random.nextInt(3)];
    }

    public static void main(String[] args) {
        for (int seed = 1; seed <= RUNS; seed++) {
            new ModelTest(seed).run();
        }
        Checks.end();
    }

    /** Every other run keeps some of its calls back, to look at the state that it ends in. */
    private void run() {
        int last = random.nextInt(2) == 0 ? CALLS : CALLS - LOOK;
        for (int turn = 0; calls < last; turn++) {
            step(name + " call " + calls);
            if (turn % 32 == 31) {
                same(name + " call " + calls + ": the counts");
            }
        }
        sameDisk(name + ": the disk at the end");
    }

    private void same(String what) {
        for (int k = 0; k < 6; k++) {
            int which = k;
            both(what, () -> log.count(which), () -> model.count(which));
        }
        for (int k = 0; k < 5; k++) {
            int which = k;
            both(what, () -> log.told(which), () -> model.told(which));
        }
    }

    private void sameDisk(String what) {
        for (int k = 0; k < 16; k++) {
            int place = k;
            both(what, () -> log.key(place), () -> model.key(place));
        }
        while (calls < CALLS) {
            int place = random.nextInt(model.disk.length + 1);
            both(what, () -> log.octet(place), () -> model.octet(place));
        }
    }

    private void both(String what, Checks.Call mine, Checks.Call due) {
        if (calls == CALLS) {
            return;
        }
        calls++;
        Checks.dueText(what, Checks.answerOf(due), Checks.answerOf(mine));
    }

    private int number(int bound) {
        return random.nextInt(12) == 0 ? WILD[random.nextInt(WILD.length)] : random.nextInt(bound);
    }

    private void step(String at) {
        int dice = random.nextInt(100);
        if (dice < bends) {
            int place = number(Math.max(1, model.disk.length));
            int bit = number(8);
            both(at + " bend", () -> log.bend(place, bit), () -> model.bend(place, bit));
        } else if (dice < bends + crashes) {
            int keep = number(60);
            both(at + " crash", () -> log.crash(keep), () -> model.crash(keep));
        } else if (random.nextInt(300) == 0) {
            begin();
        } else if (!model.up && random.nextInt(3) > 0) {
            both(at + " recover", () -> log.recover(), () -> model.recover());
        } else {
            other(at);
        }
    }

    private void begin() {
        for (int k = 0; k < 4; k++) {
            key[k] = random.nextInt();
        }
        calls++;
        log.begin(key[0], key[1], key[2], key[3]);
        model.begin(key[0], key[1], key[2], key[3]);
    }

    private void other(String at) {
        int what = number(6);
        int row = number(Math.max(1, model.good.size() + 1));
        switch (random.nextInt(14)) {
            case 0, 1 -> feed(at);
            case 2 -> both(at + " erase", () -> log.erase(), () -> model.erase());
            case 3, 4, 5 -> both(at + " append", () -> log.append(), () -> model.append());
            case 6 -> both(at + " seal", () -> log.seal(), () -> model.seal());
            case 7 -> both(at + " sync", () -> log.sync(), () -> model.sync());
            case 8 -> both(at + " recover", () -> log.recover(), () -> model.recover());
            case 9 -> verify(at);
            case 10 -> both(at + " told " + what, () -> log.told(what), () -> model.told(what));
            case 11 -> {
                int part = number(43);
                both(at + " record " + row + " " + part, () -> log.record(row, part), () -> model.record(row, part));
            }
            case 12 -> both(at + " count " + what, () -> log.count(what), () -> model.count(what));
            default -> {
                int place = number(1200);
                int k = number(16);
                both(at + " octet " + place, () -> log.octet(place), () -> model.octet(place));
                both(at + " key " + k, () -> log.key(k), () -> model.key(k));
            }
        }
    }

    private void feed(String at) {
        int many = number(17);
        int a = random.nextInt();
        int b = random.nextInt();
        int c = random.nextInt();
        int d = random.nextInt();
        both(at + " feed", () -> log.feed(many, a, b, c, d), () -> model.feed(many, a, b, c, d));
    }

    private void verify(String at) {
        int last = random.nextInt(10) == 0 ? key[3] ^ 1 : key[3];
        both(at + " verify", () -> log.verify(key[0], key[1], key[2], last),
            () -> model.verify(key[0], key[1], key[2], last));
        same(at + " verify");
    }
}
