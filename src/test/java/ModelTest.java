import java.util.Random;

/** All promises: runs of 512 calls drawn from fixed seeds, each answer compared with the Model's. */
public final class ModelTest extends SessionChecks {
    private static final int RUNS = 3000;
    private static final int CALLS = 512;
    /** No more calls than these are made to compare a part of the state at a run's end. */
    private static final int LAST_LOOK = 125;
    private static final int[] EDGES = {MIN, -2, -1, 3, 4, 15, 16, 17, 119, 120, MAX};

    private final Random random;
    private final BlockTargetSession x;
    private final Model model;
    /** How often the session is troubled: never, seldom or often. */
    private final int trouble;
    /** How many calls of a hundred make a request. */
    private final int eagerness;

    private ModelTest(long seed) {
        random = new Random(seed);
        int window = random.nextInt(7) - 1;
        int room = random.nextInt(9) - 1;
        x = new BlockTargetSession(window, room);
        model = new Model(window, room);
        trouble = random.nextInt(3);
        eagerness = random.nextBoolean() ? 15 : 35;
    }

    public static void main(String[] args) {
        for (int run = 0; run < RUNS && allRight(); run++) {
            ModelTest test = new ModelTest(run);
            int part = run % 5;
            int steps = part == 4 ? CALLS : CALLS - LAST_LOOK;
            for (int step = 0; step < steps && allRight(); step++) {
                at("run " + run + ", call " + step);
                test.step();
            }
            at("run " + run + ", the state at its end");
            test.compare(part, run / 5 % 5 - 1);
        }
        end("ModelTest");
    }

    private int small(int bound) {
        return random.nextInt(40) == 0 ? EDGES[random.nextInt(EDGES.length)] : random.nextInt(bound);
    }

    /** Makes one call. */
    private void step() {
        int draw = random.nextInt(100);
        if (draw < eagerness) {
            ask();
        } else if (draw < 50) {
            due("send()", x.send(), model.send());
        } else if (draw < 86) {
            boolean up = random.nextBoolean();
            due("deliver(" + up + ")", x.deliver(up), model.deliver(up));
        } else if (draw < 89) {
            disturb();
        } else if (draw < 91) {
            due("login()", x.login(), model.login());
        } else if (draw < 93) {
            due("flush()", x.flush(), model.flush());
        } else {
            look();
        }
    }

    private void ask() {
        int first = small(16);
        int count = 1 + small(3);
        int value = random.nextInt(4) == 0 ? MAX - random.nextInt(3) : random.nextInt();
        switch (random.nextInt(5)) {
            case 0, 1 -> due("write(" + first + ", " + count + ", " + value + ")",
                    x.write(first, count, value), model.write(first, count, value));
            case 2, 3 -> due("read(" + first + ", " + count + ")", x.read(first, count), model.read(first, count));
            default -> due("sync()", x.sync(), model.sync());
        }
    }

    private void disturb() {
        boolean up = random.nextBoolean();
        int n = small(6);
        if (trouble == 0 || (trouble == 1 && random.nextInt(5) != 0)) {
            due("waiting(" + up + ")", x.waiting(up), model.waiting(up));
            return;
        }
        switch (random.nextInt(4)) {
            case 0 -> due("drop()", x.drop(), model.drop());
            case 1 -> due("crash()", x.crash(), model.crash());
            default -> due("damage(" + up + ", " + n + ")", x.damage(up, n), model.damage(up, n));
        }
    }

    private void look() {
        boolean up = random.nextBoolean();
        int n = small(17);
        int field = small(6);
        int request = small(model.count(0) + 1);
        int i = small(4);
        switch (random.nextInt(8)) {
            case 0 -> due("state(" + request + ")", x.state(request), model.state(request));
            case 1 -> due("result(" + request + ", " + i + ")", x.result(request, i), model.result(request, i));
            case 2 -> due("present(" + n + ")", x.present(n), model.present(n));
            case 3 -> due("disk(" + n + ")", x.disk(n), model.disk(n));
            case 4 -> due("cached(" + i + ")", x.cached(i), model.cached(i));
            case 5 -> due("message(" + up + ", " + n + ", " + field + ")",
                    x.message(up, n, field), model.message(up, n, field));
            case 6 -> due("waiting(" + up + ")", x.waiting(up), model.waiting(up));
            default -> due("count(" + n + ")", x.count(n), model.count(n));
        }
    }

    private void compare(int part, int i) {
        switch (part) {
            case 0 -> compareStore();
            case 1 -> compareStates();
            case 2 -> compareResults(i);
            case 3 -> compareLines();
            default -> {
            }
        }
    }

    private void compareStore() {
        for (int what = -1; what <= 9; what++) {
            due("count(" + what + ")", x.count(what), model.count(what));
        }
        for (int block = -1; block <= 16; block++) {
            due("present(" + block + ")", x.present(block), model.present(block));
            due("disk(" + block + ")", x.disk(block), model.disk(block));
            due("cached(" + block + ")", x.cached(block), model.cached(block));
        }
    }

    private void compareStates() {
        for (int request = -1; request <= 120; request++) {
            due("state(" + request + ")", x.state(request), model.state(request));
        }
    }

    private void compareResults(int i) {
        for (int request = -1; request <= 120; request++) {
            due("result(" + request + ", " + i + ")", x.result(request, i), model.result(request, i));
        }
    }

    private void compareLines() {
        for (int field = 0; field <= 4; field++) {
            for (int n = 0; n <= 16; n++) {
                due("message(false, " + n + ", " + field + ")",
                        x.message(false, n, field), model.message(false, n, field));
            }
            for (int n = 0; n <= 4; n++) {
                due("message(true, " + n + ", " + field + ")",
                        x.message(true, n, field), model.message(true, n, field));
            }
        }
    }
}
