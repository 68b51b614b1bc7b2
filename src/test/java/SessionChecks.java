import java.util.function.Supplier;
import java.util.function.ToLongFunction;

/** What the tests share: the names of the answers, and ways to compare answers with those due. */
abstract class SessionChecks {
    static final int DONE = BlockTargetSession.DONE;
    static final int REFUSED = BlockTargetSession.REFUSED;
    static final int FULL = BlockTargetSession.FULL;
    static final int NONE = BlockTargetSession.NONE;
    static final int CLOSED = BlockTargetSession.CLOSED;
    static final int BROKEN = BlockTargetSession.BROKEN;
    static final long ABSENT = BlockTargetSession.ABSENT;

    static final int OPEN = 0;
    static final int SENT = 1;
    static final int GOOD = 2;

    static final int COMMAND = 0;
    static final int DATA = 1;
    static final int ASK = 2;
    static final int PIECE = 3;
    static final int STATUS = 4;

    static final int MIN = Integer.MIN_VALUE;
    static final int MAX = Integer.MAX_VALUE;

    private static String sentence = "";
    private static int asked = 0;
    private static int wrong = 0;

    /** Names the promise or term, and its sentence, that the checks from here on are of. */
    static void at(String sentence) {
        SessionChecks.sentence = sentence;
    }

    static void due(String call, long got, long want) {
        asked++;
        if (got != want) {
            wrong++;
            System.out.println(sentence + ": " + call + " answered " + got + ", due is " + want);
        }
    }

    /** A call that changes nothing: all that can be told behind it is as if it had not been made. */
    static void still(Supplier<BlockTargetSession> scene, String call,
            ToLongFunction<BlockTargetSession> made, long want) {
        due(call, made.applyAsLong(scene.get()), want);
        String[] without = Tell.of(scene).split("\n");
        String[] with = Tell.of(() -> {
            BlockTargetSession x = scene.get();
            made.applyAsLong(x);
            return x;
        }).split("\n");
        asked++;
        for (int line = 0; line < without.length; line++) {
            if (!without[line].equals(with[line])) {
                wrong++;
                System.out.println(sentence + ": " + call + " changed '" + without[line] + "' to '" + with[line] + "'");
                return;
            }
        }
    }

    static void countsDue(BlockTargetSession x, int... counts) {
        for (int what = 0; what < counts.length; what++) {
            due("count(" + what + ")", x.count(what), counts[what]);
        }
    }

    /** SENDS, DONES and CREDIT. */
    static void sessionDue(BlockTargetSession x, int sends, int dones, int credit) {
        due("SENDS, count(5)", x.count(5), sends);
        due("DONES, count(6)", x.count(6), dones);
        due("CREDIT, count(7)", x.count(7), credit);
    }

    static void linesDue(BlockTargetSession x, int up, int down) {
        due("waiting(true)", x.waiting(true), up);
        due("waiting(false)", x.waiting(false), down);
    }

    /** The fields of a message from the first on: request, kind, number, carried, damaged. */
    static void messageDue(BlockTargetSession x, boolean up, int n, int... fields) {
        for (int field = 0; field < fields.length; field++) {
            due("message(" + up + ", " + n + ", " + field + ")", x.message(up, n, field), fields[field]);
        }
    }

    static void statesDue(BlockTargetSession x, int... states) {
        for (int request = 0; request < states.length; request++) {
            due("state(" + request + ")", x.state(request), states[request]);
        }
        due("count(0)", x.count(0), states.length);
    }

    static void resultsDue(BlockTargetSession x, int request, long... results) {
        for (int i = 0; i < results.length; i++) {
            due("result(" + request + ", " + i + ")", x.result(request, i), results[i]);
        }
    }

    static void cacheDue(BlockTargetSession x, int... blocks) {
        due("count(4)", x.count(4), blocks.length);
        for (int place = 0; place < blocks.length; place++) {
            due("cached(" + place + ")", x.cached(place), blocks[place]);
        }
        due("cached(" + blocks.length + ")", x.cached(blocks.length), NONE);
    }

    static void diskDue(BlockTargetSession x, int first, long... ints) {
        for (int i = 0; i < ints.length; i++) {
            due("disk(" + (first + i) + ")", x.disk(first + i), ints[i]);
        }
    }

    static void presentDue(BlockTargetSession x, int first, long... ints) {
        for (int i = 0; i < ints.length; i++) {
            due("present(" + (first + i) + ")", x.present(first + i), ints[i]);
        }
    }

    static boolean allRight() {
        return wrong == 0;
    }

    static void end(String test) {
        System.out.println(test + ": " + asked + " checks, " + wrong + " wrong");
        if (wrong != 0 || asked == 0) {
            System.exit(1);
        }
    }
}
