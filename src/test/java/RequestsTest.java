import java.util.function.ToLongFunction;

/** Promises 1 to 4, 12 and 13: a new object, write, read, sync, state and result. */
public final class RequestsTest extends SessionChecks {
    /** A write or a read of a stretch of blocks. */
    private interface Maker {
        int make(BlockTargetSession x, int first, int count);
    }

    public static void main(String[] args) {
        windowIsClamped();
        roomIsClamped();
        windowAndRoomAreTwoThings();
        objectsAreApart();
        stretchIsTested("promise 2, write", "write", (x, first, count) -> x.write(first, count, 7));
        stretchIsTested("promise 3, read", "read", (x, first, count) -> x.read(first, count));
        writeTakesEveryInt();
        requestsAreNumbered();
        requestsNeedNoSession();
        lastRequestIsTaken();
        requestsAreFull();
        goodRequestsCountToo();
        argumentsAreTestedBeforeTheLimit();
        stateIsOfARequest();
        stateFollowsTheRequest();
        resultIsBelowTheCount();
        resultIsOfARead();
        resultIsOfAGoodRead();
        resultIsOfARequest();
        resultIsWhatTheReadSaw();
        end("RequestsTest");
    }

    private static void windowIsClamped() {
        at("promise 1: WINDOW, clamped to 1 .. 4");
        int[] asked = {MIN, -1, 0, 1, 2, 3, 4, 5, 6, MAX};
        int[] window = {1, 1, 1, 1, 2, 3, 4, 4, 4, 4};
        for (int k = 0; k < asked.length; k++) {
            BlockTargetSession x = new BlockTargetSession(asked[k], 3);
            due("CREDIT of window " + asked[k], x.count(7), window[k]);
            for (int i = 0; i < 6; i++) {
                x.sync();
            }
            for (int i = 0; i < window[k]; i++) {
                due("send() in window " + asked[k], x.send(), i);
            }
            due("send() beyond window " + asked[k], x.send(), FULL);
            x.deliver(true);
            due("carried, window " + asked[k], x.message(false, 0, 3), window[k] + 1);
            x.drop();
            x.login();
            due("CREDIT after login, window " + asked[k], x.count(7), window[k]);
        }
    }

    private static void roomIsClamped() {
        at("promise 1: ROOM, clamped to 1 .. 6");
        int[] asked = {MIN, -1, 0, 1, 2, 3, 4, 5, 6, 7, 8, MAX};
        int[] room = {1, 1, 1, 1, 2, 3, 4, 5, 6, 6, 6, 6};
        for (int k = 0; k < asked.length; k++) {
            BlockTargetSession x = new BlockTargetSession(1, asked[k]);
            for (int block = 0; block < room[k]; block++) {
                Drive.writeThrough(x, block, 1, block + 50);
            }
            due("blocks in the cache, room " + asked[k], x.count(4), room[k]);
            due("disk(0), room " + asked[k], x.disk(0), 0);
            Drive.writeThrough(x, 9, 1, 59);
            due("blocks in the cache, one more, room " + asked[k], x.count(4), room[k]);
            due("disk(0), one more, room " + asked[k], x.disk(0), 50);
            due("cached, one more, room " + asked[k], x.cached(room[k] - 1), 9);
        }
    }

    private static void windowAndRoomAreTwoThings() {
        at("promise 1: (int window, int room)");
        BlockTargetSession narrow = new BlockTargetSession(1, 6);
        due("CREDIT of (1, 6)", narrow.count(7), 1);
        Drive.writeThrough(narrow, 0, 3, 1);
        due("blocks in the cache of (1, 6)", narrow.count(4), 3);
        BlockTargetSession wide = new BlockTargetSession(4, 1);
        due("CREDIT of (4, 1)", wide.count(7), 4);
        Drive.writeThrough(wide, 0, 3, 1);
        due("blocks in the cache of (4, 1)", wide.count(4), 1);
    }

    private static void objectsAreApart() {
        at("promise 1: A new object");
        BlockTargetSession used = Scenes.midst();
        BlockTargetSession x = new BlockTargetSession(1, 6);
        countsDue(x, 0, 0, 0, 0, 0, 0, 0, 1, 1);
        linesDue(x, 0, 0);
        presentDue(x, 0, 0, 0);
        diskDue(x, 0, 0, 0);
        x.drop();
        countsDue(used, 7, 1, 3, 3, 2, 6, 4, 6, 1);
        linesDue(used, 1, 4);
    }

    private static void stretchIsTested(String promise, String name, Maker maker) {
        at(promise + ": first 0 .. 15");
        for (int first : new int[] {0, 1, 14, 15}) {
            isTaken(name, maker, first, 1);
        }
        for (int first : new int[] {MIN, -2, -1, 16, 17, MAX}) {
            isRefused(name, maker, first, 1);
        }
        at(promise + ": count 1 .. 3");
        for (int count = 1; count <= 3; count++) {
            isTaken(name, maker, 0, count);
        }
        for (int count : new int[] {MIN, -1, 0, 4, 5, MAX}) {
            isRefused(name, maker, 0, count);
        }
        at(promise + ": first + count at most 16");
        for (int count = 1; count <= 3; count++) {
            isTaken(name, maker, 16 - count, count);
            isRefused(name, maker, 17 - count, count);
        }
        isRefused(name, maker, 15, 3);
        isRefused(name, maker, 15, MAX);
        isRefused(name, maker, MAX, 3);
        // The sums of these are small, or wrap to small ones.
        isRefused(name, maker, 16, 0);
        isRefused(name, maker, 17, -1);
        isRefused(name, maker, -1, 3);
        isRefused(name, maker, MAX, MAX);
        isRefused(name, maker, MIN, MIN);
    }

    private static void isTaken(String name, Maker maker, int first, int count) {
        BlockTargetSession x = Scenes.midst();
        due(name + " of " + count + " from " + first, maker.make(x, first, count), 7);
        countsDue(x, 8, 2, 3, 3);
        due("state(7)", x.state(7), OPEN);
        linesDue(x, 1, 4);
    }

    private static void isRefused(String name, Maker maker, int first, int count) {
        still(Scenes::midst, name + " of " + count + " from " + first,
                x -> maker.make(x, first, count), REFUSED);
    }

    private static void writeTakesEveryInt() {
        at("promise 2, write: an int v");
        for (int value : new int[] {MIN, MIN + 1, -1, 0, 1, MAX - 1, MAX}) {
            BlockTargetSession x = Scenes.fresh();
            due("write(3, 1, " + value + ")", x.write(3, 1, value), 0);
            due("present(3) before it is sent", x.present(3), 0);
            Drive.finishAll(x);
            presentDue(x, 2, 0, value, 0);
        }
    }

    private static void requestsAreNumbered() {
        at("promises 2 to 4: Answers its number");
        BlockTargetSession x = Scenes.fresh();
        due("write(0, 1, 5)", x.write(0, 1, 5), 0);
        due("write(0, 1, 5), the same again", x.write(0, 1, 5), 1);
        due("read(0, 1)", x.read(0, 1), 2);
        due("sync()", x.sync(), 3);
        due("write(16, 1, 5)", x.write(16, 1, 5), REFUSED);
        due("read(0, 4)", x.read(0, 4), REFUSED);
        due("sync(), the refused have no number", x.sync(), 4);
        Drive.finishAll(x);
        due("read(15, 1), the others are GOOD", x.read(15, 1), 5);
        statesDue(x, GOOD, GOOD, GOOD, GOOD, GOOD, OPEN);
    }

    private static void requestsNeedNoSession() {
        at("promises 2 to 4, without a session");
        BlockTargetSession x = Scenes.closed();
        due("write(13, 3, 5)", x.write(13, 3, 5), 7);
        due("read(13, 3)", x.read(13, 3), 8);
        due("sync()", x.sync(), 9);
        due("count(1)", x.count(1), 7);
        still(Scenes::closed, "write(13, 4, 5)", y -> y.write(13, 4, 5), REFUSED);
        still(Scenes::closed, "read(-1, 1)", y -> y.read(-1, 1), REFUSED);
    }

    private static void lastRequestIsTaken() {
        at("promises 2 to 4: there are 120 requests, the last one");
        isLastTaken("write(0, 1, 5)", x -> x.write(0, 1, 5));
        isLastTaken("read(0, 1)", x -> x.read(0, 1));
        isLastTaken("sync()", x -> x.sync());
    }

    private static void isLastTaken(String call, ToLongFunction<BlockTargetSession> made) {
        BlockTargetSession x = Scenes.requests(119);
        due(call + " with 119 requests", made.applyAsLong(x), 119);
        due("state(119)", x.state(119), OPEN);
        due("count(0)", x.count(0), 120);
        due(call + " with 120 requests", made.applyAsLong(x), FULL);
        due("count(0)", x.count(0), 120);
    }

    private static void requestsAreFull() {
        at("promises 2 to 4: there are 120 requests: FULL");
        still(Scenes::crowded, "write(0, 1, 5)", x -> x.write(0, 1, 5), FULL);
        still(Scenes::crowded, "write(13, 3, 5)", x -> x.write(13, 3, 5), FULL);
        still(Scenes::crowded, "read(15, 1)", x -> x.read(15, 1), FULL);
        still(Scenes::crowded, "read(0, 3)", x -> x.read(0, 3), FULL);
        still(Scenes::crowded, "sync()", x -> x.sync(), FULL);
    }

    private static void goodRequestsCountToo() {
        at("promises 2 to 4: there are 120 requests, all of them GOOD");
        BlockTargetSession x = new BlockTargetSession(1, 1);
        for (int i = 0; i < 120; i++) {
            due("write", x.write(i % 16, 1, i), i);
            due("send()", x.send(), i);
            x.deliver(true);
            x.deliver(false);
        }
        due("count(3)", x.count(3), 120);
        sessionDue(x, 120, 120, 121);
        due("state(119)", x.state(119), GOOD);
        due("write(0, 1, 1)", x.write(0, 1, 1), FULL);
        due("read(0, 1)", x.read(0, 1), FULL);
        due("sync()", x.sync(), FULL);
        x.crash();
        due("sync() after a crash", x.sync(), FULL);
        due("login()", x.login(), 0);
        due("write(0, 1, 1) after a login", x.write(0, 1, 1), FULL);
        due("count(0)", x.count(0), 120);
    }

    private static void argumentsAreTestedBeforeTheLimit() {
        at("promises 2 and 3: else REFUSED; there are 120 requests: FULL");
        still(Scenes::crowded, "write(-1, 1, 1)", x -> x.write(-1, 1, 1), REFUSED);
        still(Scenes::crowded, "write(0, 0, 1)", x -> x.write(0, 0, 1), REFUSED);
        still(Scenes::crowded, "write(14, 3, 1)", x -> x.write(14, 3, 1), REFUSED);
        still(Scenes::crowded, "read(16, 1)", x -> x.read(16, 1), REFUSED);
        still(Scenes::crowded, "read(0, 4)", x -> x.read(0, 4), REFUSED);
        still(Scenes::crowded, "read(15, 2)", x -> x.read(15, 2), REFUSED);
    }

    private static void stateIsOfARequest() {
        at("promise 12: no such request: REFUSED");
        still(Scenes::fresh, "state(0) without requests", x -> x.state(0), REFUSED);
        due("state(0)", Scenes.requests(1).state(0), OPEN);
        due("state(6), the last one", Scenes.midst().state(6), OPEN);
        due("state(119), the last one", Scenes.crowded().state(119), OPEN);
        still(Scenes::crowded, "state(120)", x -> x.state(120), REFUSED);
        for (int request : new int[] {MIN, -2, -1, 7, 8, 119, 120, MAX}) {
            still(Scenes::midst, "state(" + request + ")", x -> x.state(request), REFUSED);
        }
    }

    private static void stateFollowsTheRequest() {
        at("promise 12: The request's state 0 .. 2");
        BlockTargetSession x = Scenes.fresh();
        x.write(0, 2, 1);
        x.read(0, 1);
        statesDue(x, OPEN, OPEN);
        x.send();
        statesDue(x, SENT, OPEN);
        x.deliver(true);
        x.deliver(false);
        x.deliver(true);
        statesDue(x, SENT, OPEN);
        x.deliver(false);
        statesDue(x, GOOD, OPEN);
        x.send();
        statesDue(x, GOOD, SENT);
        x.drop();
        statesDue(x, GOOD, OPEN);
        statesDue(Scenes.midst(), GOOD, GOOD, GOOD, SENT, SENT, SENT, OPEN);
    }

    private static BlockTargetSession readOf(int count) {
        BlockTargetSession x = new BlockTargetSession(2, 3);
        Drive.writeThrough(x, 4, 3, 30);
        Drive.readThrough(x, 4, count);
        return x;
    }

    private static void resultIsBelowTheCount() {
        at("promise 13: if i is not below its count or below 0, ABSENT");
        for (int count = 1; count <= 3; count++) {
            int length = count;
            BlockTargetSession x = readOf(count);
            for (int i = 0; i < count; i++) {
                due("result(1, " + i + ") of " + count, x.result(1, i), 30 + i);
            }
            for (int i : new int[] {MIN, -2, -1, count, count + 1, 3, 4, 120, MAX}) {
                still(() -> readOf(length), "result(1, " + i + ") of " + length, y -> y.result(1, i), ABSENT);
            }
        }
    }

    private static void resultIsOfARead() {
        at("promise 13: of a GOOD READ; else ABSENT, the other kinds");
        BlockTargetSession x = readOf(3);
        Drive.syncThrough(x);
        statesDue(x, GOOD, GOOD, GOOD);
        resultsDue(x, 0, ABSENT, ABSENT, ABSENT, ABSENT);
        resultsDue(x, 1, 30, 31, 32, ABSENT);
        resultsDue(x, 2, ABSENT, ABSENT, ABSENT, ABSENT);
        still(Scenes::midst, "result(0, 0) of a GOOD WRITE", y -> y.result(0, 0), ABSENT);
    }

    private static void resultIsOfAGoodRead() {
        at("promise 13: of a GOOD READ; else ABSENT, the other states");
        BlockTargetSession x = new BlockTargetSession(4, 6);
        Drive.writeThrough(x, 6, 2, -40);
        x.read(6, 2);
        due("result(1, 0), OPEN", x.result(1, 0), ABSENT);
        x.send();
        due("result(1, 0), SENT", x.result(1, 0), ABSENT);
        x.deliver(true);
        Drive.deliver(x, false, 2);
        resultsDue(x, 1, ABSENT, ABSENT);
        due("deliver(false), the STATUS", x.deliver(false), STATUS);
        resultsDue(x, 1, -40, -39, ABSENT);
        x.crash();
        resultsDue(x, 1, -40, -39, ABSENT);
        still(Scenes::midst, "result(3, 0), SENT with PIECE 0 taken", y -> y.result(3, 0), ABSENT);
        still(Scenes::closed, "result(3, 0), OPEN again", y -> y.result(3, 0), ABSENT);
    }

    private static void resultIsOfARequest() {
        at("promise 13: of a GOOD READ; else ABSENT, no such request");
        still(Scenes::fresh, "result(0, 0) without requests", x -> x.result(0, 0), ABSENT);
        for (int request : new int[] {MIN, -1, 7, 119, 120, MAX}) {
            still(Scenes::midst, "result(" + request + ", 0)", x -> x.result(request, 0), ABSENT);
        }
        still(Scenes::crowded, "result(120, 0)", x -> x.result(120, 0), ABSENT);
    }

    private static void resultIsWhatTheReadSaw() {
        at("promise 13: Result i (from 0)");
        BlockTargetSession x = new BlockTargetSession(4, 1);
        Drive.writeThrough(x, 0, 1, MIN);
        Drive.writeThrough(x, 1, 1, MAX);
        x.read(0, 3);
        x.read(1, 1);
        x.write(0, 3, 100);
        Drive.finishAll(x);
        resultsDue(x, 2, MIN, MAX, 0);
        resultsDue(x, 3, MAX, ABSENT);
        presentDue(x, 0, 100, 101, 102);
    }
}
