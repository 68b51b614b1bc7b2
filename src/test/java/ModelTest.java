import java.util.Random;

/** All promises: runs of 512 calls drawn from fixed seeds, each answer compared with the Model's. */
public final class ModelTest {
    private static final int RUNS = 1500;
    private static final int CALLS = 512;
    private static final int[] EDGES = {Integer.MIN_VALUE, -2, -1, 16, 17, 120, Integer.MAX_VALUE};
    private static final Check check = new Check("ModelTest");

    private final Random random;
    private final BlockTargetSession x;
    private final Model model;
    /** How often the session is troubled: never, seldom or often. */
    private final int trouble;

    private ModelTest(long seed) {
        random = new Random(seed);
        int window = random.nextInt(7) - 1;
        int room = random.nextInt(9) - 1;
        x = new BlockTargetSession(window, room);
        model = new Model(window, room);
        trouble = random.nextInt(3);
    }

    public static void main(String[] args) {
        for (int run = 0; run < RUNS && check.wrong() == 0; run++) {
            ModelTest test = new ModelTest(run);
            for (int call = 0; call < CALLS && check.wrong() == 0; call++) {
                check.at("run " + run + ", call " + call);
                test.step();
            }
            test.compareAll();
        }
        check.end();
    }

    private int small(int bound) {
        return random.nextInt(40) == 0 ? EDGES[random.nextInt(EDGES.length)] : random.nextInt(bound);
    }

    private void step() {
        int draw = random.nextInt(100);
        if (draw < 18) {
            ask();
        } else if (draw < 36) {
            check.due("send()", x.send(), model.send());
        } else if (draw < 78) {
            boolean up = random.nextBoolean();
            check.due("deliver(" + up + ")", x.deliver(up), model.deliver(up));
        } else if (draw < 82) {
            disturb();
        } else if (draw < 84) {
            check.due("login()", x.login(), model.login());
        } else if (draw < 86) {
            check.due("flush()", x.flush(), model.flush());
        } else {
            look();
        }
    }

    private void ask() {
        int first = small(16);
        int count = 1 + small(3);
        int value = random.nextInt(4) == 0 ? Integer.MAX_VALUE - random.nextInt(3) : random.nextInt();
        switch (random.nextInt(5)) {
            case 0, 1 -> check.due("write(" + first + ", " + count + ", " + value + ")",
                    x.write(first, count, value), model.write(first, count, value));
            case 2, 3 -> check.due("read(" + first + ", " + count + ")",
                    x.read(first, count), model.read(first, count));
            default -> check.due("sync()", x.sync(), model.sync());
        }
    }

    private void disturb() {
        if (trouble == 0 || (trouble == 1 && random.nextInt(5) != 0)) {
            return;
        }
        boolean up = random.nextBoolean();
        int n = small(6);
        switch (random.nextInt(4)) {
            case 0 -> check.due("drop()", x.drop(), model.drop());
            case 1 -> check.due("crash()", x.crash(), model.crash());
            default -> check.due("damage(" + up + ", " + n + ")", x.damage(up, n), model.damage(up, n));
        }
    }

    private void look() {
        boolean up = random.nextBoolean();
        int n = small(17);
        int field = small(6);
        int request = random.nextInt(Math.max(1, model.count(0) + 1));
        int i = small(4);
        check.due("state(" + n + ")", x.state(n), model.state(n));
        check.due("result(" + request + ", " + i + ")", x.result(request, i), model.result(request, i));
        check.due("result(" + n + ", 0)", x.result(n, 0), model.result(n, 0));
        check.due("present(" + n + ")", x.present(n), model.present(n));
        check.due("disk(" + n + ")", x.disk(n), model.disk(n));
        check.due("cached(" + i + ")", x.cached(i), model.cached(i));
        check.due("message(" + up + ", " + n + ", " + field + ")",
                x.message(up, n, field), model.message(up, n, field));
        check.due("waiting(" + up + ")", x.waiting(up), model.waiting(up));
        check.due("count(" + n + ")", x.count(n), model.count(n));
    }

    private void compareAll() {
        for (int what = -1; what <= 9; what++) {
            check.due("count(" + what + ")", x.count(what), model.count(what));
        }
        for (int block = -1; block <= 16; block++) {
            check.due("present(" + block + ")", x.present(block), model.present(block));
            check.due("disk(" + block + ")", x.disk(block), model.disk(block));
            check.due("cached(" + block + ")", x.cached(block), model.cached(block));
        }
        for (int request = 0; request <= 120; request++) {
            check.due("state(" + request + ")", x.state(request), model.state(request));
            for (int i = -1; i <= 3; i++) {
                check.due("result(" + request + ", " + i + ")", x.result(request, i), model.result(request, i));
            }
        }
        for (int n = 0; n <= 16; n++) {
            for (int field = 0; field <= 4; field++) {
                check.due("message(true)", x.message(true, n, field), model.message(true, n, field));
                check.due("message(false)", x.message(false, n, field), model.message(false, n, field));
            }
        }
    }
}
