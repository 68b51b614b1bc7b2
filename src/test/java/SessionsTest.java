/** Promises 8 to 10 and 19: drop, crash, login and count. */
public final class SessionsTest extends SessionChecks {
    public static void main(String[] args) {
        dropBreaksTheSession();
        dropNeedsASession();
        crashLosesTheCache();
        crashOfAFullCache();
        crashNeedsNoSession();
        loginBeginsANewSession();
        loginAnswersTheOpenRequests();
        loginNeedsNoneBefore();
        countOfRequests();
        countOfBlocks();
        countOfTheSession();
        countOfSessions();
        countOfManySessions();
        countNeedsAWhat();
        end("SessionsTest");
    }

    private static void dropBreaksTheSession() {
        at("promise 8: BREAKS the session; DONE");
        BlockTargetSession x = Scenes.midst();
        countsDue(x, 7, 1, 3, 3, 2, 6, 4, 6, 1);
        due("drop()", x.drop(), DONE);
        countsDue(x, 7, 4, 0, 3, 2, 0, 0, 0, 1);
        linesDue(x, 0, 0);
        BlockTargetSession y = Scenes.fresh();
        due("drop() of a new object", y.drop(), DONE);
        countsDue(y, 0, 0, 0, 0, 0, 0, 0, 0, 1);
    }

    private static void dropNeedsASession() {
        at("promise 8: there is none: CLOSED");
        still(Scenes::closed, "drop()", x -> x.drop(), CLOSED);
        BlockTargetSession x = Scenes.closed();
        x.login();
        due("drop() after a login", x.drop(), DONE);
        due("drop() after a drop", x.drop(), CLOSED);
        BlockTargetSession y = Scenes.midst();
        y.crash();
        due("drop() after a crash", y.drop(), CLOSED);
        BlockTargetSession z = Scenes.midst();
        z.damage(true, 0);
        z.deliver(true);
        due("drop() after a damaged message", z.drop(), CLOSED);
    }

    private static void crashLosesTheCache() {
        at("promise 9: The session BREAKS, and the CACHE becomes empty without writing. DONE");
        BlockTargetSession x = Scenes.midst();
        presentDue(x, 0, 50, 51);
        due("crash()", x.crash(), DONE);
        countsDue(x, 7, 4, 0, 3, 0, 0, 0, 0, 1);
        linesDue(x, 0, 0);
        cacheDue(x);
        presentDue(x, 0, 40, 0);
        diskDue(x, 0, 40, 0);
        statesDue(x, GOOD, GOOD, GOOD, OPEN, OPEN, OPEN, OPEN);
        resultsDue(x, 2, 50, 51);
        due("send()", x.send(), CLOSED);
        due("flush()", x.flush(), NONE);
    }

    private static void crashOfAFullCache() {
        at("promise 9: the CACHE becomes empty, a full one");
        for (int room = 1; room <= 6; room++) {
            BlockTargetSession x = new BlockTargetSession(1, room);
            for (int block = 0; block < room; block++) {
                Drive.writeThrough(x, block, 1, 9);
            }
            due("count(4) before", x.count(4), room);
            due("crash()", x.crash(), DONE);
            cacheDue(x);
            for (int block = 0; block < room; block++) {
                presentDue(x, block, 0);
            }
            x.login();
            Drive.writeThrough(x, room, 1, 8);
            cacheDue(x, room);
        }
    }

    private static void crashNeedsNoSession() {
        at("promise 9: if there is one; DONE, also without a session");
        BlockTargetSession x = Scenes.closed();
        due("count(4)", x.count(4), 2);
        due("crash()", x.crash(), DONE);
        countsDue(x, 7, 4, 0, 3, 0, 0, 0, 0, 1);
        presentDue(x, 0, 40, 0);
        due("crash() again", x.crash(), DONE);
        due("login()", x.login(), 4);
        due("crash() of an empty cache", x.crash(), DONE);
        due("login()", x.login(), 4);
        due("count(8)", x.count(8), 3);
    }

    private static void loginBeginsANewSession() {
        at("promise 10: A new session");
        BlockTargetSession x = Scenes.closed();
        x.login();
        countsDue(x, 7, 4, 0, 3, 2, 0, 0, 3, 2);
        linesDue(x, 0, 0);
        presentDue(x, 0, 50, 51);
        due("send()", x.send(), 3);
        x.deliver(true);
        due("carried by a PIECE, counted anew", x.message(false, 0, 3), 3);
        due("carried by the STATUS, counted anew", x.message(false, 3, 3), 4);
        Drive.settle(x);
        Drive.finishAll(x);
        countsDue(x, 7, 0, 0, 7, 1, 4, 4, 7, 2);
        resultsDue(x, 3, 50, 51, 0);
    }

    private static BlockTargetSession opened(int open) {
        BlockTargetSession x = Scenes.requests(open);
        x.drop();
        return x;
    }

    private static void loginAnswersTheOpenRequests() {
        at("promise 10: Answers how many requests are OPEN");
        for (int open : new int[] {0, 1, 2, 119, 120}) {
            BlockTargetSession x = opened(open);
            due("login() with " + open + " OPEN", x.login(), open);
            due("count(1)", x.count(1), open);
        }
        due("login(), three SENT are OPEN again", Scenes.closed().login(), 4);
        BlockTargetSession x = Scenes.fresh();
        Drive.readThrough(x, 0, 1);
        x.drop();
        due("login() with GOOD ones alone", x.login(), 0);
    }

    private static BlockTargetSession second() {
        BlockTargetSession x = Scenes.closed();
        x.login();
        Drive.send(x, 2);
        return x;
    }

    private static void loginNeedsNoneBefore() {
        at("promise 10: there is one: REFUSED");
        still(Scenes::fresh, "login() of a new object", x -> x.login(), REFUSED);
        still(Scenes::midst, "login()", x -> x.login(), REFUSED);
        still(SessionsTest::second, "login() in a second session", x -> x.login(), REFUSED);
        BlockTargetSession x = Scenes.midst();
        x.damage(false, 0);
        due("login(), damaged but not yet broken", x.login(), REFUSED);
        x.deliver(false);
        due("login(), broken", x.login(), 4);
    }

    private static void countOfRequests() {
        at("promise 19: How many requests there are (0), OPEN (1), SENT (2), GOOD (3)");
        BlockTargetSession x = new BlockTargetSession(2, 6);
        countsDue(x, 0, 0, 0, 0);
        x.write(0, 1, 1);
        countsDue(x, 1, 1, 0, 0);
        x.read(0, 1);
        x.sync();
        countsDue(x, 3, 3, 0, 0);
        Drive.send(x, 2);
        countsDue(x, 3, 1, 2, 0);
        Drive.deliver(x, true, 2);
        countsDue(x, 3, 1, 2, 0);
        x.deliver(false);
        countsDue(x, 3, 1, 1, 1);
        x.deliver(false);
        countsDue(x, 3, 1, 1, 1);
        x.deliver(false);
        countsDue(x, 3, 1, 0, 2);
        Drive.finishAll(x);
        countsDue(x, 3, 0, 0, 3);
        countsDue(Scenes.crowded(), 120, 120, 0, 0);
    }

    private static void countOfBlocks() {
        at("promise 19: blocks in the CACHE (4)");
        BlockTargetSession x = new BlockTargetSession(2, 4);
        due("count(4)", x.count(4), 0);
        Drive.writeThrough(x, 0, 3, 1);
        due("count(4)", x.count(4), 3);
        Drive.writeThrough(x, 2, 2, 1);
        due("count(4), one of the two is new", x.count(4), 4);
        Drive.writeThrough(x, 9, 3, 1);
        due("count(4), no more than ROOM", x.count(4), 4);
        x.flush();
        due("count(4)", x.count(4), 3);
        x.drop();
        due("count(4) without a session", x.count(4), 3);
        x.crash();
        due("count(4) after a crash", x.count(4), 0);
    }

    private static void countOfTheSession() {
        at("promise 19: SENDS (5), DONES (6), CREDIT (7; these three 0 without a session)");
        BlockTargetSession x = new BlockTargetSession(2, 6);
        sessionDue(x, 0, 0, 2);
        x.write(0, 2, 1);
        sessionDue(x, 0, 0, 2);
        x.send();
        sessionDue(x, 1, 0, 2);
        x.deliver(true);
        x.deliver(false);
        sessionDue(x, 1, 0, 2);
        x.deliver(true);
        sessionDue(x, 1, 1, 2);
        x.deliver(false);
        sessionDue(x, 1, 1, 3);
        x.drop();
        sessionDue(x, 0, 0, 0);
        x.crash();
        sessionDue(x, 0, 0, 0);
        x.login();
        sessionDue(x, 0, 0, 2);
        x.crash();
        sessionDue(x, 0, 0, 0);
    }

    private static void countOfSessions() {
        at("promise 19: sessions so far, the first one counted (8)");
        BlockTargetSession x = Scenes.fresh();
        due("count(8)", x.count(8), 1);
        due("login(), refused", x.login(), REFUSED);
        due("count(8)", x.count(8), 1);
        x.drop();
        due("count(8) without a session", x.count(8), 1);
        x.login();
        due("count(8)", x.count(8), 2);
        x.crash();
        x.crash();
        due("count(8)", x.count(8), 2);
        x.login();
        due("count(8)", x.count(8), 3);
    }

    private static void countOfManySessions() {
        at("promise 19: sessions so far, as many as 512 calls can begin");
        BlockTargetSession x = Scenes.fresh();
        for (int i = 0; i < 255; i++) {
            x.drop();
            x.login();
        }
        due("count(8)", x.count(8), 256);
        due("count(7), the 512th call", x.count(7), 2);
    }

    private static void countNeedsAWhat() {
        at("promise 19: another what: REFUSED");
        due("count(0), the first", Scenes.midst().count(0), 7);
        due("count(8), the last", Scenes.midst().count(8), 1);
        for (int what : new int[] {MIN, -2, -1, 9, 10, MAX}) {
            still(Scenes::midst, "count(" + what + ")", x -> x.count(what), REFUSED);
            still(Scenes::closed, "count(" + what + "), no session", x -> x.count(what), REFUSED);
        }
    }
}
