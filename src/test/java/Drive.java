/** Short ways to bring a session on; a helper of the tests. */
final class Drive {
    private Drive() {
    }

    /** Delivers, UP first, until both lines are empty or the session is broken. */
    static void settle(BlockTargetSession x) {
        int bound = 1000;
        while (bound > 0 && (x.deliver(true) >= 0 || x.deliver(false) >= 0)) {
            bound--;
        }
    }

    /** Sends and delivers until nothing is OPEN or on a line. */
    static void finishAll(BlockTargetSession x) {
        for (int i = 0; i < 1000 && x.send() >= 0; i++) {
            settle(x);
        }
    }

    static void writeThrough(BlockTargetSession x, int first, int count, int value) {
        x.write(first, count, value);
        finishAll(x);
    }

    static void readThrough(BlockTargetSession x, int first, int count) {
        x.read(first, count);
        finishAll(x);
    }

    static void syncThrough(BlockTargetSession x) {
        x.sync();
        finishAll(x);
    }

    static void send(BlockTargetSession x, int times) {
        for (int i = 0; i < times; i++) {
            x.send();
        }
    }

    static void deliver(BlockTargetSession x, boolean up, int times) {
        for (int i = 0; i < times; i++) {
            x.deliver(up);
        }
    }
}
