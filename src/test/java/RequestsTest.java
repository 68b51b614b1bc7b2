/** Promises 1 to 4, 12 and 13: a new object, write, read, sync, state and result. */
public final class RequestsTest {
    private static final int REFUSED = BlockTargetSession.REFUSED;
    private static final int FULL = BlockTargetSession.FULL;
    private static final int NONE = BlockTargetSession.NONE;
    private static final long ABSENT = BlockTargetSession.ABSENT;
    private static final Check check = new Check("RequestsTest");

    public static void main(String[] args) {
        newObjectIsEmpty();
        windowIsClamped();
        roomIsClamped();
        writeIsNumbered();
        writeTestsItsArguments();
        writtenIntsWrap();
        readTestsItsArguments();
        syncIsARequest();
        requestsAreLimited();
        argumentsAreTestedBeforeTheLimit();
        stateFollowsTheRequest();
        resultIsOfAGoodRead();
        resultIsWhatTheReadSaw();
        resultIsForgottenInABreak();
        check.end();
    }

    private static void newObjectIsEmpty() {
        check.at("promise 1, empty");
        BlockTargetSession x = new BlockTargetSession(3, 2);
        int[] counts = {0, 0, 0, 0, 0, 0, 0, 3, 1};
        for (int what = 0; what < counts.length; what++) {
            check.due("count(" + what + ")", x.count(what), counts[what]);
        }
        for (int block = 0; block < 16; block++) {
            check.due("disk", x.disk(block), 0);
            check.due("present", x.present(block), 0);
        }
        check.due("waiting(true)", x.waiting(true), 0);
        check.due("waiting(false)", x.waiting(false), 0);
        check.due("cached(0)", x.cached(0), NONE);
        check.due("state(0)", x.state(0), REFUSED);
        check.due("login()", x.login(), REFUSED);
    }

    private static void windowIsClamped() {
        check.at("promise 1, window");
        int[] asked = {Integer.MIN_VALUE, -1, 0, 1, 2, 3, 4, 5, Integer.MAX_VALUE};
        int[] due = {1, 1, 1, 1, 2, 3, 4, 4, 4};
        for (int k = 0; k < asked.length; k++) {
            BlockTargetSession x = new BlockTargetSession(asked[k], 3);
            check.due("credit of window " + asked[k], x.count(7), due[k]);
            for (int i = 0; i < 5; i++) {
                x.sync();
            }
            for (int i = 0; i < due[k]; i++) {
                check.due("send()", x.send(), i);
            }
            check.due("send() beyond window " + asked[k], x.send(), FULL);
            x.deliver(true);
            check.due("carried, window " + asked[k], x.message(false, 0, 3), due[k] + 1);
            x.drop();
            x.login();
            check.due("credit after login, window " + asked[k], x.count(7), due[k]);
        }
    }

    private static void roomIsClamped() {
        check.at("promise 1, room");
        int[] asked = {Integer.MIN_VALUE, -1, 0, 1, 2, 5, 6, 7, Integer.MAX_VALUE};
        int[] due = {1, 1, 1, 1, 2, 5, 6, 6, 6};
        for (int k = 0; k < asked.length; k++) {
            BlockTargetSession x = new BlockTargetSession(1, asked[k]);
            for (int block = 0; block < 10; block++) {
                Drive.writeThrough(x, block, 1, block + 50);
                check.due("blocks in cache, room " + asked[k], x.count(4), Math.min(block + 1, due[k]));
            }
            for (int block = 0; block < 10; block++) {
                boolean gone = block < 10 - due[k];
                check.due("disk of block " + block + ", room " + asked[k], x.disk(block), gone ? block + 50 : 0);
            }
        }
    }

    private static void writeIsNumbered() {
        check.at("promise 2, numbers");
        BlockTargetSession x = new BlockTargetSession(2, 2);
        check.due("write(0, 1, 5)", x.write(0, 1, 5), 0);
        check.due("write(0, 1, 5)", x.write(0, 1, 5), 1);
        check.due("read(0, 1)", x.read(0, 1), 2);
        check.due("sync()", x.sync(), 3);
        check.due("write(15, 1, 5)", x.write(15, 1, 5), 4);
        check.due("state(4)", x.state(4), 0);
        check.due("count(0)", x.count(0), 5);
        check.due("count(1)", x.count(1), 5);
        check.due("present(0)", x.present(0), 0);
        check.due("waiting(true)", x.waiting(true), 0);
        x.drop();
        check.due("write without a session", x.write(13, 3, 5), 5);
    }

    private static void writeTestsItsArguments() {
        check.at("promise 2, arguments");
        BlockTargetSession x = new BlockTargetSession(2, 2);
        int number = 0;
        for (int first = -2; first <= 18; first++) {
            for (int count = -1; count <= 5; count++) {
                boolean fine = first >= 0 && first <= 15 && count >= 1 && count <= 3 && first + count <= 16;
                check.due("write(" + first + ", " + count + ", 7)", x.write(first, count, 7),
                        fine ? number : REFUSED);
                number += fine ? 1 : 0;
            }
        }
        check.due("count(0)", x.count(0), 45);
        check.due("write(MIN, 1, 0)", x.write(Integer.MIN_VALUE, 1, 0), REFUSED);
        check.due("write(MAX, 3, 0)", x.write(Integer.MAX_VALUE, 3, 0), REFUSED);
        check.due("write(0, MAX, 0)", x.write(0, Integer.MAX_VALUE, 0), REFUSED);
        check.due("write(15, MAX, 0)", x.write(15, Integer.MAX_VALUE, 0), REFUSED);
        check.due("write(0, MIN, 0)", x.write(0, Integer.MIN_VALUE, 0), REFUSED);
        check.due("count(0)", x.count(0), 45);
    }

    private static void writtenIntsWrap() {
        check.at("promise 2, wrapping");
        BlockTargetSession x = new BlockTargetSession(1, 6);
        Drive.writeThrough(x, 13, 3, Integer.MAX_VALUE);
        check.due("present(13)", x.present(13), Integer.MAX_VALUE);
        check.due("present(14)", x.present(14), Integer.MIN_VALUE);
        check.due("present(15)", x.present(15), Integer.MIN_VALUE + 1);
    }

    private static void readTestsItsArguments() {
        check.at("promise 3");
        BlockTargetSession x = new BlockTargetSession(2, 2);
        int number = 0;
        for (int first = -2; first <= 18; first++) {
            for (int count = -1; count <= 5; count++) {
                boolean fine = first >= 0 && first <= 15 && count >= 1 && count <= 3 && first + count <= 16;
                check.due("read(" + first + ", " + count + ")", x.read(first, count), fine ? number : REFUSED);
                number += fine ? 1 : 0;
            }
        }
        check.due("read(MIN, 1)", x.read(Integer.MIN_VALUE, 1), REFUSED);
        check.due("read(15, MAX)", x.read(15, Integer.MAX_VALUE), REFUSED);
        check.due("count(0)", x.count(0), 45);
        check.due("count(1)", x.count(1), 45);
        check.due("state(44)", x.state(44), 0);
        x.drop();
        check.due("read without a session", x.read(0, 1), 45);
    }

    private static void syncIsARequest() {
        check.at("promise 4");
        BlockTargetSession x = new BlockTargetSession(2, 6);
        Drive.writeThrough(x, 4, 2, 70);
        check.due("sync()", x.sync(), 1);
        check.due("state(1)", x.state(1), 0);
        check.due("disk(4)", x.disk(4), 0);
        Drive.finishAll(x);
        check.due("state(1)", x.state(1), 2);
        check.due("disk(4)", x.disk(4), 70);
        check.due("disk(5)", x.disk(5), 71);
        x.drop();
        check.due("sync() without a session", x.sync(), 2);
    }

    private static void requestsAreLimited() {
        check.at("promises 2 to 4, 120 requests");
        BlockTargetSession x = new BlockTargetSession(4, 2);
        for (int i = 0; i < 120; i++) {
            int kind = i % 3;
            int got = kind == 0 ? x.write(1, 1, i) : kind == 1 ? x.read(1, 2) : x.sync();
            check.due("request " + i, got, i);
        }
        check.due("write(1, 1, 1)", x.write(1, 1, 1), FULL);
        check.due("read(1, 1)", x.read(1, 1), FULL);
        check.due("sync()", x.sync(), FULL);
        check.due("count(0)", x.count(0), 120);
        check.due("state(119)", x.state(119), 0);
        check.due("state(120)", x.state(120), REFUSED);
        Drive.finishAll(x);
        check.due("count(3)", x.count(3), 120);
        check.due("count(5)", x.count(5), 120);
        check.due("count(6)", x.count(6), 120);
        check.due("count(7)", x.count(7), 124);
        check.due("result(118, 0)", x.result(118, 0), 117);
        check.due("GOOD requests are counted, write", x.write(1, 1, 1), FULL);
        check.due("GOOD requests are counted, read", x.read(1, 1), FULL);
        check.due("GOOD requests are counted, sync", x.sync(), FULL);
    }

    private static void argumentsAreTestedBeforeTheLimit() {
        check.at("promises 2 and 3, order of tests");
        BlockTargetSession x = new BlockTargetSession(4, 2);
        for (int i = 0; i < 120; i++) {
            x.sync();
        }
        check.due("write(-1, 1, 1)", x.write(-1, 1, 1), REFUSED);
        check.due("write(0, 0, 1)", x.write(0, 0, 1), REFUSED);
        check.due("write(14, 3, 1)", x.write(14, 3, 1), REFUSED);
        check.due("read(16, 1)", x.read(16, 1), REFUSED);
        check.due("read(0, 4)", x.read(0, 4), REFUSED);
        check.due("read(15, 2)", x.read(15, 2), REFUSED);
    }

    private static void stateFollowsTheRequest() {
        check.at("promise 12");
        BlockTargetSession x = new BlockTargetSession(4, 2);
        x.write(0, 2, 1);
        x.read(0, 1);
        check.due("state(0) at first", x.state(0), 0);
        x.send();
        check.due("state(0) sent", x.state(0), 1);
        check.due("state(1) not sent", x.state(1), 0);
        x.deliver(true);
        x.deliver(false);
        x.deliver(true);
        check.due("state(0) finished by the target", x.state(0), 1);
        x.deliver(false);
        check.due("state(0) after the STATUS", x.state(0), 2);
        x.send();
        check.due("state(1) sent", x.state(1), 1);
        x.drop();
        check.due("state(0) after a break", x.state(0), 2);
        check.due("state(1) after a break", x.state(1), 0);
        check.due("state(2)", x.state(2), REFUSED);
        check.due("state(-1)", x.state(-1), REFUSED);
        check.due("state(120)", x.state(120), REFUSED);
        check.due("state(MIN)", x.state(Integer.MIN_VALUE), REFUSED);
        check.due("state(MAX)", x.state(Integer.MAX_VALUE), REFUSED);
    }

    private static void resultIsOfAGoodRead() {
        check.at("promise 13");
        BlockTargetSession x = new BlockTargetSession(4, 6);
        Drive.writeThrough(x, 6, 3, -40);
        x.read(6, 2);
        x.sync();
        check.due("result of an OPEN read", x.result(1, 0), ABSENT);
        x.send();
        x.deliver(true);
        x.deliver(false);
        check.due("result of a SENT read", x.result(1, 0), ABSENT);
        x.deliver(false);
        check.due("result of a SENT read", x.result(1, 1), ABSENT);
        x.deliver(false);
        check.due("result(1, 0)", x.result(1, 0), -40);
        check.due("result(1, 1)", x.result(1, 1), -39);
        check.due("result(1, 2)", x.result(1, 2), ABSENT);
        check.due("result(1, -1)", x.result(1, -1), ABSENT);
        check.due("result(1, MIN)", x.result(1, Integer.MIN_VALUE), ABSENT);
        check.due("result(1, MAX)", x.result(1, Integer.MAX_VALUE), ABSENT);
        check.due("result of a write", x.result(0, 0), ABSENT);
        Drive.finishAll(x);
        check.due("result of a sync", x.result(2, 0), ABSENT);
        check.due("result(3, 0)", x.result(3, 0), ABSENT);
        check.due("result(-1, 0)", x.result(-1, 0), ABSENT);
        check.due("result(MAX, 0)", x.result(Integer.MAX_VALUE, 0), ABSENT);
    }

    private static void resultIsWhatTheReadSaw() {
        check.at("promise 13, value at the time");
        BlockTargetSession x = new BlockTargetSession(4, 1);
        Drive.writeThrough(x, 0, 1, 8);
        Drive.writeThrough(x, 1, 1, 9);
        x.read(0, 3);
        x.write(0, 3, 100);
        Drive.finishAll(x);
        check.due("result(2, 0), from the disk", x.result(2, 0), 8);
        check.due("result(2, 1), from the cache", x.result(2, 1), 9);
        check.due("result(2, 2), never written", x.result(2, 2), 0);
        check.due("present(2)", x.present(2), 102);
        x.crash();
        check.due("result(2, 1) after a crash", x.result(2, 1), 9);
        Drive.writeThrough(x, 4, 1, Integer.MIN_VALUE);
        x.login();
        Drive.finishAll(x);
        x.read(4, 1);
        Drive.finishAll(x);
        check.due("result(5, 0), the least int", x.result(5, 0), Integer.MIN_VALUE);
    }

    private static void resultIsForgottenInABreak() {
        check.at("promise 13, a read done twice");
        BlockTargetSession x = new BlockTargetSession(4, 6);
        Drive.writeThrough(x, 3, 2, 10);
        x.read(3, 2);
        x.send();
        x.deliver(true);
        x.deliver(false);
        x.deliver(false);
        x.crash();
        x.login();
        check.due("result(1, 0) after the break", x.result(1, 0), ABSENT);
        Drive.finishAll(x);
        check.due("result(1, 0) of the second try", x.result(1, 0), 0);
        check.due("result(1, 1) of the second try", x.result(1, 1), 0);
    }
}
