import java.util.function.ToLongFunction;

/** The section 'Terms' of the document: the SESSION, BREAKING it, and refused calls. */
public final class TermsSessionTest extends SessionChecks {
    public static void main(String[] args) {
        thereIsASessionAtFirst();
        sessionsBeginAnew();
        breakingEmptiesTheLines();
        breakingEndsTheSession();
        breakingOpensTheSent();
        breakingForgetsTheirResults();
        breakingKeepsTheOtherResults();
        breakingKeepsTheCache();
        brokenWriteStartsAnew();
        brokenWriteMayBeDoneTwice();
        argumentsAreTestedFirst();
        refusedCallsChangeNothing();
        tellingCallsChangeNothing();
        end("TermsSessionTest");
    }

    private static void thereIsASessionAtFirst() {
        at("The initiator and target have a SESSION or none; there is one at first");
        BlockTargetSession x = Scenes.fresh();
        countsDue(x, 0, 0, 0, 0, 0, 0, 0, 2, 1);
        linesDue(x, 0, 0);
        due("send()", x.send(), NONE);
        due("login()", x.login(), REFUSED);
        due("drop()", x.drop(), DONE);
        due("drop()", x.drop(), CLOSED);
    }

    private static void sessionsBeginAnew() {
        at("At its beginning SENDS and DONES are 0 and CREDIT is WINDOW");
        for (int window = 1; window <= 4; window++) {
            BlockTargetSession x = new BlockTargetSession(window, 3);
            sessionDue(x, 0, 0, window);
            for (int i = 0; i < 3; i++) {
                Drive.syncThrough(x);
            }
            sessionDue(x, 3, 3, window + 3);
            x.drop();
            x.login();
            sessionDue(x, 0, 0, window);
            for (int i = 0; i <= window; i++) {
                x.sync();
            }
            for (int i = 0; i < window; i++) {
                due("send()", x.send(), 3 + i);
            }
            due("send() beyond the new CREDIT", x.send(), FULL);
        }
    }

    /** One of the four ways to break a session. */
    private interface Breaker {
        void breakIt(BlockTargetSession x);
    }

    private static final Breaker[] BREAKERS = {
        x -> due("drop()", x.drop(), DONE),
        x -> due("crash()", x.crash(), DONE),
        x -> {
            x.damage(true, 0);
            due("deliver(true)", x.deliver(true), BROKEN);
        },
        x -> {
            x.damage(false, 0);
            due("deliver(false)", x.deliver(false), BROKEN);
        },
    };

    private static void breakingEmptiesTheLines() {
        at("BREAKING the session: both LINES become empty");
        for (Breaker breaker : BREAKERS) {
            BlockTargetSession x = Scenes.midst();
            linesDue(x, 1, 4);
            breaker.breakIt(x);
            linesDue(x, 0, 0);
            due("message(true, 0, 0)", x.message(true, 0, 0), REFUSED);
            due("message(false, 0, 0)", x.message(false, 0, 0), REFUSED);
            x.login();
            linesDue(x, 0, 0);
            due("deliver(true)", x.deliver(true), NONE);
            due("deliver(false)", x.deliver(false), NONE);
        }
    }

    private static void breakingEndsTheSession() {
        at("BREAKING the session: there is no session");
        for (Breaker breaker : BREAKERS) {
            BlockTargetSession x = Scenes.midst();
            sessionDue(x, 6, 4, 6);
            breaker.breakIt(x);
            sessionDue(x, 0, 0, 0);
            due("send()", x.send(), CLOSED);
            due("deliver(true)", x.deliver(true), CLOSED);
            due("deliver(false)", x.deliver(false), CLOSED);
            due("drop()", x.drop(), CLOSED);
            due("count(8)", x.count(8), 1);
            due("login()", x.login(), 4);
            due("count(8)", x.count(8), 2);
        }
    }

    private static void breakingOpensTheSent() {
        at("BREAKING the session: all SENT requests are OPEN again");
        for (Breaker breaker : BREAKERS) {
            BlockTargetSession x = Scenes.midst();
            statesDue(x, GOOD, GOOD, GOOD, SENT, SENT, SENT, OPEN);
            breaker.breakIt(x);
            statesDue(x, GOOD, GOOD, GOOD, OPEN, OPEN, OPEN, OPEN);
            countsDue(x, 7, 4, 0, 3);
            x.login();
            due("send()", x.send(), 3);
        }
        BlockTargetSession x = Scenes.fresh();
        Drive.readThrough(x, 0, 1);
        x.drop();
        statesDue(x, GOOD);
    }

    private static void breakingForgetsTheirResults() {
        at("BREAKING the session: their results are forgotten");
        BlockTargetSession x = new BlockTargetSession(4, 6);
        Drive.writeThrough(x, 3, 2, 10);
        x.read(3, 2);
        x.send();
        x.deliver(true);
        Drive.deliver(x, false, 2);
        x.crash();
        resultsDue(x, 1, ABSENT, ABSENT);
        x.login();
        resultsDue(x, 1, ABSENT, ABSENT);
        x.send();
        x.deliver(true);
        x.deliver(false);
        resultsDue(x, 1, ABSENT, ABSENT);
        Drive.settle(x);
        resultsDue(x, 1, 0, 0, ABSENT);
    }

    private static void breakingKeepsTheOtherResults() {
        at("BREAKING the session: their results are forgotten, those of GOOD requests not");
        for (Breaker breaker : BREAKERS) {
            BlockTargetSession x = Scenes.midst();
            resultsDue(x, 2, 50, 51, ABSENT);
            breaker.breakIt(x);
            resultsDue(x, 2, 50, 51, ABSENT);
            x.login();
            Drive.finishAll(x);
            resultsDue(x, 2, 50, 51, ABSENT);
        }
    }

    private static void breakingKeepsTheCache() {
        at("BREAKING the session: The CACHE stays");
        for (Breaker breaker : BREAKERS) {
            if (breaker == BREAKERS[1]) {
                continue; // a crash loses it
            }
            BlockTargetSession x = Scenes.midst();
            breaker.breakIt(x);
            cacheDue(x, 0, 1);
            presentDue(x, 0, 50, 51, 0);
            diskDue(x, 0, 40, 0, 0);
            x.login();
            cacheDue(x, 0, 1);
        }
    }

    private static void brokenWriteStartsAnew() {
        at("BREAKING the session: all SENT requests are OPEN again, a WRITE in the midst of its DATA");
        BlockTargetSession x = new BlockTargetSession(1, 6);
        x.write(7, 3, 1);
        x.send();
        x.deliver(true);
        x.deliver(false);
        x.deliver(true);
        messageDue(x, false, 0, 0, ASK, 2, 1, 0);
        x.drop();
        x.login();
        due("send()", x.send(), 0);
        messageDue(x, true, 0, 0, COMMAND, 0, 0, 0);
        x.deliver(true);
        messageDue(x, false, 0, 0, ASK, 1, 1, 0);
        cacheDue(x);
        Drive.settle(x);
        presentDue(x, 7, 1, 2, 3);
        statesDue(x, GOOD);
    }

    private static void brokenWriteMayBeDoneTwice() {
        at("BREAKING the session: all SENT requests are OPEN again, a WRITE that the target has finished");
        BlockTargetSession x = Scenes.fresh();
        x.write(0, 1, 7);
        x.write(0, 1, 8);
        Drive.send(x, 2);
        Drive.deliver(x, true, 2);
        presentDue(x, 0, 8);
        x.damage(false, 0);
        due("deliver(false)", x.deliver(false), BROKEN);
        statesDue(x, OPEN, OPEN);
        due("login()", x.login(), 2);
        due("send()", x.send(), 0);
        x.deliver(true);
        presentDue(x, 0, 7);
        sessionDue(x, 1, 1, 2);
        Drive.settle(x);
        Drive.finishAll(x);
        presentDue(x, 0, 8);
        statesDue(x, GOOD, GOOD);
    }

    private static BlockTargetSession crowdedAndClosed() {
        BlockTargetSession x = Scenes.crowded();
        x.drop();
        return x;
    }

    private static void argumentsAreTestedFirst() {
        at("Every call first tests its arguments in their order; one out of range answers REFUSED");
        due("write(16, 1, 0)", crowdedAndClosed().write(16, 1, 0), REFUSED);
        due("write(0, 4, 0)", crowdedAndClosed().write(0, 4, 0), REFUSED);
        due("write(15, 2, 0)", crowdedAndClosed().write(15, 2, 0), REFUSED);
        due("write(15, 1, 0)", crowdedAndClosed().write(15, 1, 0), FULL);
        due("read(-1, 1)", crowdedAndClosed().read(-1, 1), REFUSED);
        due("read(0, 0)", crowdedAndClosed().read(0, 0), REFUSED);
        due("read(14, 3)", crowdedAndClosed().read(14, 3), REFUSED);
        due("read(13, 3)", crowdedAndClosed().read(13, 3), FULL);
        due("message(true, 0, 5)", crowdedAndClosed().message(true, 0, 5), REFUSED);
        due("state(120)", crowdedAndClosed().state(120), REFUSED);
        due("count(9)", crowdedAndClosed().count(9), REFUSED);
    }

    private static void refusedCallsChangeNothing() {
        at("A refused call (an answer below 0) changes nothing, unless said");
        still(Scenes::midst, "write(0, 4, 1), REFUSED", x -> x.write(0, 4, 1), REFUSED);
        still(Scenes::crowded, "sync(), FULL", x -> x.sync(), FULL);
        still(Scenes::midst, "send(), FULL", x -> x.send(), FULL);
        still(Scenes::readWorked, "send(), NONE", x -> x.send(), NONE);
        still(Scenes::closed, "send(), CLOSED", x -> x.send(), CLOSED);
        still(Scenes::fresh, "deliver(true), NONE", x -> x.deliver(true), NONE);
        still(Scenes::closed, "deliver(false), CLOSED", x -> x.deliver(false), CLOSED);
        still(Scenes::midst, "damage(true, 1), NONE", x -> x.damage(true, 1), NONE);
        still(Scenes::closed, "drop(), CLOSED", x -> x.drop(), CLOSED);
        still(Scenes::midst, "login(), REFUSED", x -> x.login(), REFUSED);
        still(Scenes::fresh, "flush(), NONE", x -> x.flush(), NONE);
        at("A refused call changes nothing, unless said: BROKEN is said");
        BlockTargetSession x = Scenes.midst();
        x.damage(false, 0);
        due("deliver(false)", x.deliver(false), BROKEN);
        countsDue(x, 7, 4, 0, 3, 2, 0, 0, 0, 1);
    }

    private static void tellingCallsChangeNothing() {
        at("state changes are those described: the calls that tell have none");
        ToLongFunction<BlockTargetSession> tellAll = x -> x.state(3) + x.result(2, 0) + x.present(0)
                + x.disk(0) + x.cached(0) + x.message(false, 0, 1) + x.waiting(true) + x.count(0);
        still(Scenes::midst, "all of them", tellAll, SENT + 50 + 50 + 40 + 0 + PIECE + 1 + 7);
    }
}
