/** Short ways to bring a session into a state; a helper of the tests. */
final class Drive {
    private Drive() {
    }

    /** Delivers on both lines until both are empty or the session is broken. */
    static void settle(BlockTargetSession x) {
        for (int i = 0; i < 1000 && x.waiting(true) + x.waiting(false) > 0; i++) {
            x.deliver(x.waiting(true) > 0);
        }
    }

    /** Sends and delivers until nothing is OPEN or in flight. */
    static void finishAll(BlockTargetSession x) {
        for (int i = 0; i < 1000 && x.send() >= 0; i++) {
            settle(x);
        }
    }

    static void writeThrough(BlockTargetSession x, int first, int count, int value) {
        x.write(first, count, value);
        finishAll(x);
    }

    /** All that the calls without effect tell, so that two states can be compared. */
    static String tell(BlockTargetSession x) {
        StringBuilder told = new StringBuilder();
        for (int what = 0; what <= 8; what++) {
            told.append(x.count(what)).append(' ');
        }
        for (int block = 0; block < 16; block++) {
            told.append(x.present(block)).append('/').append(x.disk(block)).append(' ');
        }
        for (int place = 0; place < x.count(4); place++) {
            told.append('c').append(x.cached(place)).append(' ');
        }
        for (int request = 0; request < x.count(0); request++) {
            told.append('r').append(x.state(request));
            for (int i = 0; i < 3; i++) {
                told.append(',').append(x.result(request, i));
            }
            told.append(' ');
        }
        tellLine(x, true, told);
        tellLine(x, false, told);
        return told.toString();
    }

    private static void tellLine(BlockTargetSession x, boolean up, StringBuilder told) {
        told.append(up ? "up " : "down ");
        for (int n = 0; n < x.waiting(up); n++) {
            for (int field = 0; field <= 4; field++) {
                told.append(x.message(up, n, field)).append(',');
            }
            told.append(' ');
        }
    }
}
