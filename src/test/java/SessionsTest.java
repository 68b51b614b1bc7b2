/** Promises 8 to 10 and 19: drop, crash, login and count. */
public final class SessionsTest {
    private static final int DONE = BlockTargetSession.DONE;
    private static final int REFUSED = BlockTargetSession.REFUSED;
    private static final int CLOSED = BlockTargetSession.CLOSED;
    private static final Check check = new Check("SessionsTest");

    public static void main(String[] args) {
        dropBreaksTheSession();
        dropWithoutASession();
        crashLosesTheCache();
        crashWithoutASession();
        loginBeginsANewSession();
        loginWithASession();
        unfinishedWriteStartsAnew();
        countTellsTheNumbers();
        countWithoutASession();
        countOfAnotherWhat();
        refusedCallsChangeNothing();
        check.end();
    }

    /** Request 0 is GOOD, 1 and 2 are SENT with messages on both lines, 3 is OPEN. */
    private static BlockTargetSession inTheMidst() {
        BlockTargetSession x = new BlockTargetSession(2, 6);
        Drive.writeThrough(x, 0, 2, 50);
        x.write(4, 3, 60);
        x.read(0, 2);
        x.sync();
        x.send();
        x.send();
        x.deliver(true);
        return x;
    }

    private static void countsDue(BlockTargetSession x, int... due) {
        for (int what = 0; what < due.length; what++) {
            check.due("count(" + what + ")", x.count(what), due[what]);
        }
    }

    private static void dropBreaksTheSession() {
        check.at("promise 8");
        BlockTargetSession x = inTheMidst();
        countsDue(x, 4, 1, 2, 1, 2, 3, 1, 3, 1);
        check.due("drop()", x.drop(), DONE);
        countsDue(x, 4, 3, 0, 1, 2, 0, 0, 0, 1);
        check.due("waiting(true)", x.waiting(true), 0);
        check.due("waiting(false)", x.waiting(false), 0);
        check.due("state(0)", x.state(0), 2);
        check.due("state(1)", x.state(1), 0);
        check.due("state(2)", x.state(2), 0);
        check.due("state(3)", x.state(3), 0);
        check.due("the cache stays", x.present(1), 51);
        check.due("disk(1)", x.disk(1), 0);
    }

    private static void dropWithoutASession() {
        check.at("promise 8, no session");
        BlockTargetSession x = inTheMidst();
        x.drop();
        String before = Drive.tell(x);
        check.due("drop()", x.drop(), CLOSED);
        check.due("nothing is changed", before.equals(Drive.tell(x)) ? 1 : 0, 1);
        x.login();
        check.due("drop()", x.drop(), DONE);
        x.crash();
        check.due("drop() after a crash", x.drop(), CLOSED);
    }

    private static void crashLosesTheCache() {
        check.at("promise 9");
        BlockTargetSession x = inTheMidst();
        check.due("flush()", x.flush(), 0);
        check.due("crash()", x.crash(), DONE);
        countsDue(x, 4, 3, 0, 1, 0, 0, 0, 0, 1);
        check.due("what was flushed stays", x.present(0), 50);
        check.due("what was cached is lost", x.present(1), 0);
        check.due("disk(1)", x.disk(1), 0);
        check.due("cached(0)", x.cached(0), BlockTargetSession.NONE);
        check.due("state(0) stays GOOD", x.state(0), 2);
        check.due("state(1)", x.state(1), 0);
        check.due("waiting(true)", x.waiting(true), 0);
        check.due("waiting(false)", x.waiting(false), 0);
        check.due("send()", x.send(), CLOSED);
        check.due("login()", x.login(), 3);
        Drive.finishAll(x);
        check.due("present(6)", x.present(6), 62);
        check.due("result(2, 0)", x.result(2, 0), 50);
        check.due("result(2, 1)", x.result(2, 1), 0);
    }

    private static void crashWithoutASession() {
        check.at("promise 9, no session");
        BlockTargetSession x = inTheMidst();
        x.drop();
        check.due("count(4)", x.count(4), 2);
        check.due("crash()", x.crash(), DONE);
        countsDue(x, 4, 3, 0, 1, 0, 0, 0, 0, 1);
        check.due("present(0)", x.present(0), 0);
        check.due("crash() again", x.crash(), DONE);
        check.due("login()", x.login(), 3);
    }

    private static void loginBeginsANewSession() {
        check.at("promise 10");
        BlockTargetSession x = inTheMidst();
        x.drop();
        check.due("login()", x.login(), 3);
        countsDue(x, 4, 3, 0, 1, 2, 0, 0, 2, 2);
        check.due("send()", x.send(), 1);
        check.due("send()", x.send(), 2);
        check.due("send()", x.send(), BlockTargetSession.FULL);
        x.deliver(true);
        check.due("carried, counted anew", x.message(false, 0, 3), 2);
        x.drop();
        x.login();
        Drive.finishAll(x);
        countsDue(x, 4, 0, 0, 4, 0, 3, 3, 5, 3);
        x.drop();
        check.due("login() with none OPEN", x.login(), 0);
        countsDue(x, 4, 0, 0, 4, 0, 0, 0, 2, 4);
    }

    private static void loginWithASession() {
        check.at("promise 10, there is a session");
        BlockTargetSession x = inTheMidst();
        String before = Drive.tell(x);
        check.due("login()", x.login(), REFUSED);
        check.due("nothing is changed", before.equals(Drive.tell(x)) ? 1 : 0, 1);
        x.crash();
        x.login();
        check.due("login() after a login", x.login(), REFUSED);
        check.due("count(8)", x.count(8), 2);
    }

    private static void unfinishedWriteStartsAnew() {
        check.at("promise 10, a write begun twice");
        BlockTargetSession x = new BlockTargetSession(1, 6);
        x.write(7, 3, 1);
        x.send();
        x.deliver(true);
        x.deliver(false);
        x.deliver(true);
        check.due("ASK 2 in the first session", x.message(false, 0, 2), 2);
        x.drop();
        x.login();
        x.send();
        check.due("COMMAND", x.message(true, 0, 1), 0);
        x.deliver(true);
        check.due("ASK 1 in the second session", x.message(false, 0, 2), 1);
        check.due("count(4)", x.count(4), 0);
        Drive.settle(x);
        check.due("present(9)", x.present(9), 3);
        check.due("state(0)", x.state(0), 2);
    }

    private static void countTellsTheNumbers() {
        check.at("promise 19");
        BlockTargetSession x = new BlockTargetSession(2, 6);
        countsDue(x, 0, 0, 0, 0, 0, 0, 0, 2, 1);
        x.write(0, 1, 1);
        x.read(0, 1);
        x.sync();
        countsDue(x, 3, 3, 0, 0, 0, 0, 0, 2, 1);
        x.send();
        countsDue(x, 3, 2, 1, 0, 0, 1, 0, 2, 1);
        x.send();
        countsDue(x, 3, 1, 2, 0, 0, 2, 0, 2, 1);
        x.deliver(true);
        countsDue(x, 3, 1, 2, 0, 1, 2, 1, 2, 1);
        x.deliver(true);
        countsDue(x, 3, 1, 2, 0, 1, 2, 2, 2, 1);
        x.deliver(false);
        countsDue(x, 3, 1, 1, 1, 1, 2, 2, 3, 1);
        x.deliver(false);
        countsDue(x, 3, 1, 1, 1, 1, 2, 2, 3, 1);
        x.deliver(false);
        countsDue(x, 3, 1, 0, 2, 1, 2, 2, 4, 1);
        x.flush();
        countsDue(x, 3, 1, 0, 2, 0, 2, 2, 4, 1);
    }

    private static void countWithoutASession() {
        check.at("promise 19, no session");
        BlockTargetSession x = inTheMidst();
        x.drop();
        countsDue(x, 4, 3, 0, 1, 2, 0, 0, 0, 1);
        x.login();
        x.crash();
        x.login();
        check.due("count(8), a drop and a crash", x.count(8), 3);
    }

    private static void countOfAnotherWhat() {
        check.at("promise 19, another what");
        BlockTargetSession x = inTheMidst();
        check.due("count(9)", x.count(9), REFUSED);
        check.due("count(-1)", x.count(-1), REFUSED);
        check.due("count(MIN)", x.count(Integer.MIN_VALUE), REFUSED);
        check.due("count(MAX)", x.count(Integer.MAX_VALUE), REFUSED);
    }

    private static void refusedCallsChangeNothing() {
        check.at("terms, refused calls");
        BlockTargetSession x = inTheMidst();
        String before = Drive.tell(x);
        x.write(16, 1, 1);
        x.read(0, 4);
        x.send();
        x.damage(true, 9);
        x.login();
        x.state(99);
        x.result(99, 0);
        x.present(99);
        x.disk(99);
        x.cached(99);
        x.message(true, 99, 0);
        x.count(99);
        check.due("nothing is changed", before.equals(Drive.tell(x)) ? 1 : 0, 1);
    }
}
