import java.util.function.Supplier;

/**
 * All that can be told of a state, a line for each part, so that two states can be compared. Every
 * part is told by a new object, since nothing is promised of an object after its 512th call.
 */
final class Tell {
    private static final int STEPS = 40;

    private Tell() {
    }

    static String of(Supplier<BlockTargetSession> scene) {
        StringBuilder told = new StringBuilder();
        tellCounts(scene.get(), told);
        tellStore(scene.get(), told);
        tellLine(scene.get(), true, told);
        tellLine(scene.get(), false, told);
        tellStates(scene.get(), told);
        for (int i = 0; i < 3; i++) {
            tellResults(scene.get(), i, told);
        }
        told.append("going on: ");
        tellWhatFollows(scene.get(), told);
        told.append("in a new session: ");
        BlockTargetSession anew = scene.get();
        told.append(anew.drop()).append(' ').append(anew.login()).append(' ');
        tellWhatFollows(anew, told);
        return told.toString();
    }

    private static void tellCounts(BlockTargetSession x, StringBuilder told) {
        told.append("counts:");
        for (int what = 0; what <= 8; what++) {
            told.append(' ').append(x.count(what));
        }
        told.append('\n');
    }

    private static void tellStore(BlockTargetSession x, StringBuilder told) {
        told.append("store:");
        for (int block = 0; block < 16; block++) {
            told.append(' ').append(x.present(block)).append('/').append(x.disk(block));
        }
        told.append(" cache:");
        for (int place = 0; place < 7; place++) {
            told.append(' ').append(x.cached(place));
        }
        told.append('\n');
    }

    private static void tellLine(BlockTargetSession x, boolean up, StringBuilder told) {
        told.append(up ? "up:" : "down:");
        int size = x.waiting(up);
        for (int n = 0; n < size; n++) {
            for (int field = 0; field <= 4; field++) {
                told.append(field == 0 ? ' ' : ',').append(x.message(up, n, field));
            }
        }
        told.append('\n');
    }

    private static void tellStates(BlockTargetSession x, StringBuilder told) {
        told.append("states:");
        int requests = x.count(0);
        for (int request = 0; request < requests; request++) {
            told.append(' ').append(x.state(request));
        }
        told.append('\n');
    }

    private static void tellResults(BlockTargetSession x, int i, StringBuilder told) {
        told.append("results ").append(i).append(':');
        int requests = x.count(0);
        for (int request = 0; request < requests; request++) {
            told.append(' ').append(x.result(request, i));
        }
        told.append('\n');
    }

    /** What the messages and the requests hold inside shows only when they are worked. */
    private static void tellWhatFollows(BlockTargetSession x, StringBuilder told) {
        for (int step = 0; step < STEPS; step++) {
            told.append(x.deliver(true)).append(x.deliver(false)).append(x.send()).append(' ');
        }
        for (int request = 0; request < 12; request++) {
            for (int i = 0; i < 3; i++) {
                told.append(' ').append(x.result(request, i));
            }
        }
        tellStore(x, told);
    }
}
