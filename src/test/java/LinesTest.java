/** Promises 5 to 7, 17 and 18: send, deliver, damage, message and waiting. */
public final class LinesTest {
    private static final int DONE = BlockTargetSession.DONE;
    private static final int REFUSED = BlockTargetSession.REFUSED;
    private static final int FULL = BlockTargetSession.FULL;
    private static final int NONE = BlockTargetSession.NONE;
    private static final int CLOSED = BlockTargetSession.CLOSED;
    private static final int BROKEN = BlockTargetSession.BROKEN;
    private static final Check check = new Check("LinesTest");

    public static void main(String[] args) {
        sendTakesTheLeastOpenRequest();
        sendTestsInOrder();
        creditComesWithDownMessages();
        creditNeverFalls();
        deliverAnswersTheKind();
        deliverWithoutMessages();
        longWriteIsAskedFor();
        writesAreInterleaved();
        readGoesDownInPieces();
        syncGoesDownAsStatus();
        damagedMessageBreaksUp();
        damagedMessageBreaksDown();
        damageCountsFromTheOldest();
        damageWithoutMessage();
        slotsAreUsedAgainUndamaged();
        messageTellsItsFields();
        messageWithoutMessageOrField();
        fullLinesAreHeld();
        waitingFollowsTheLines();
        check.end();
    }

    private static void messageDue(BlockTargetSession x, boolean up, int n, int... fields) {
        for (int field = 0; field < fields.length; field++) {
            check.due("message(" + up + ", " + n + ", " + field + ")", x.message(up, n, field), fields[field]);
        }
    }

    private static void sendTakesTheLeastOpenRequest() {
        check.at("promise 5, order");
        BlockTargetSession x = new BlockTargetSession(4, 2);
        x.write(0, 1, 1);
        x.read(0, 1);
        x.sync();
        check.due("send()", x.send(), 0);
        check.due("state(0)", x.state(0), 1);
        check.due("count(5)", x.count(5), 1);
        check.due("send()", x.send(), 1);
        check.due("count(5)", x.count(5), 2);
        check.due("waiting(true)", x.waiting(true), 2);
        messageDue(x, true, 0, 0, 0, 0, 0, 0);
        messageDue(x, true, 1, 1, 0, 0, 0, 0);
        x.deliver(true);
        x.deliver(false);
        x.drop();
        x.login();
        check.due("count(5) in the new session", x.count(5), 0);
        check.due("send(), request 0 is GOOD", x.send(), 1);
        check.due("send()", x.send(), 2);
        check.due("send()", x.send(), NONE);
        check.due("count(5)", x.count(5), 2);
    }

    private static void sendTestsInOrder() {
        check.at("promise 5, order of tests");
        BlockTargetSession x = new BlockTargetSession(1, 2);
        check.due("send() with no request", x.send(), NONE);
        x.sync();
        check.due("send()", x.send(), 0);
        check.due("send() with none OPEN and no credit", x.send(), NONE);
        x.sync();
        check.due("send() with no credit", x.send(), FULL);
        check.due("state(1)", x.state(1), 0);
        check.due("waiting(true)", x.waiting(true), 1);
        check.due("count(5)", x.count(5), 1);
        x.drop();
        check.due("send() with OPEN ones and no session", x.send(), CLOSED);
        BlockTargetSession y = new BlockTargetSession(1, 2);
        y.drop();
        check.due("send() with no request and no session", y.send(), CLOSED);
    }

    private static void creditComesWithDownMessages() {
        check.at("promise 5, credit");
        BlockTargetSession x = new BlockTargetSession(2, 2);
        for (int i = 0; i < 6; i++) {
            x.write(i, 1, i);
        }
        x.send();
        x.send();
        x.deliver(true);
        check.due("count(6) after finishing", x.count(6), 1);
        check.due("count(7) before the STATUS is taken", x.count(7), 2);
        check.due("send()", x.send(), FULL);
        x.deliver(true);
        x.deliver(false);
        check.due("count(7), one STATUS taken", x.count(7), 3);
        check.due("send()", x.send(), 2);
        check.due("send()", x.send(), FULL);
        x.deliver(false);
        check.due("count(7), two STATUS taken", x.count(7), 4);
        check.due("send()", x.send(), 3);
        check.due("send()", x.send(), FULL);
    }

    private static void creditNeverFalls() {
        check.at("promise 6, credit by ASK and PIECE");
        BlockTargetSession x = new BlockTargetSession(2, 2);
        x.write(0, 2, 1);
        x.write(4, 1, 9);
        x.send();
        x.send();
        x.deliver(true);
        x.deliver(true);
        messageDue(x, false, 0, 0, 2, 1, 2, 0);
        messageDue(x, false, 1, 1, 4, 0, 3, 0);
        x.deliver(false);
        check.due("count(7) after an ASK of the beginning", x.count(7), 2);
        x.deliver(false);
        check.due("count(7) after the STATUS", x.count(7), 3);
        x.read(0, 1);
        check.due("send()", x.send(), 2);
        x.deliver(true);
        messageDue(x, false, 0, 0, 4, 0, 4, 0);
        x.deliver(true);
        messageDue(x, false, 1, 2, 3, 0, 4, 0);
        messageDue(x, false, 2, 2, 4, 0, 5, 0);
        x.deliver(false);
        x.deliver(false);
        check.due("count(7) after a PIECE", x.count(7), 4);
        x.deliver(false);
        check.due("count(7)", x.count(7), 5);
    }

    private static void deliverAnswersTheKind() {
        check.at("promise 6, kinds");
        BlockTargetSession x = new BlockTargetSession(4, 2);
        x.write(0, 2, 1);
        x.read(0, 1);
        x.send();
        check.due("COMMAND", x.deliver(true), 0);
        check.due("ASK", x.deliver(false), 2);
        check.due("DATA", x.deliver(true), 1);
        check.due("STATUS", x.deliver(false), 4);
        x.send();
        check.due("COMMAND", x.deliver(true), 0);
        check.due("PIECE", x.deliver(false), 3);
        check.due("STATUS", x.deliver(false), 4);
    }

    private static void deliverWithoutMessages() {
        check.at("promise 6, nothing to deliver");
        BlockTargetSession x = new BlockTargetSession(4, 2);
        check.due("deliver(true)", x.deliver(true), NONE);
        check.due("deliver(false)", x.deliver(false), NONE);
        x.sync();
        x.send();
        check.due("deliver(false), the other line has one", x.deliver(false), NONE);
        x.deliver(true);
        check.due("deliver(true), the other line has one", x.deliver(true), NONE);
        x.drop();
        check.due("deliver(true) without a session", x.deliver(true), CLOSED);
        check.due("deliver(false) without a session", x.deliver(false), CLOSED);
    }

    private static void longWriteIsAskedFor() {
        check.at("promise 6, a write of three");
        BlockTargetSession x = new BlockTargetSession(1, 6);
        x.write(9, 3, 30);
        x.send();
        x.deliver(true);
        messageDue(x, false, 0, 0, 2, 1, 1, 0);
        check.due("count(6)", x.count(6), 0);
        x.deliver(false);
        messageDue(x, true, 0, 0, 1, 1, 0, 0);
        x.deliver(true);
        messageDue(x, false, 0, 0, 2, 2, 1, 0);
        check.due("present(9) before the last DATA", x.present(9), 0);
        check.due("count(4) before the last DATA", x.count(4), 0);
        x.deliver(false);
        messageDue(x, true, 0, 0, 1, 2, 0, 0);
        x.deliver(true);
        messageDue(x, false, 0, 0, 4, 0, 2, 0);
        check.due("waiting(false)", x.waiting(false), 1);
        check.due("count(6)", x.count(6), 1);
        for (int i = 0; i < 3; i++) {
            check.due("cached(" + i + ")", x.cached(i), 9 + i);
            check.due("present", x.present(9 + i), 30 + i);
        }
        check.due("count(3)", x.count(3), 0);
        x.deliver(false);
        check.due("count(3)", x.count(3), 1);
    }

    private static void writesAreInterleaved() {
        check.at("promise 6, two writes at once");
        BlockTargetSession x = new BlockTargetSession(2, 6);
        x.write(0, 2, 10);
        x.write(1, 2, 20);
        x.send();
        x.send();
        x.deliver(true);
        x.deliver(true);
        x.deliver(false);
        x.deliver(false);
        messageDue(x, true, 0, 0, 1, 1);
        messageDue(x, true, 1, 1, 1, 1);
        x.deliver(true);
        check.due("present(1) after the first", x.present(1), 11);
        x.deliver(true);
        check.due("present(1) after the second", x.present(1), 20);
        check.due("present(0)", x.present(0), 10);
        check.due("present(2)", x.present(2), 21);
        check.due("cached(0)", x.cached(0), 0);
        check.due("cached(1)", x.cached(1), 1);
        check.due("cached(2)", x.cached(2), 2);
        messageDue(x, false, 0, 0, 4, 0, 3);
        messageDue(x, false, 1, 1, 4, 0, 4);
    }

    private static void readGoesDownInPieces() {
        check.at("promise 6, a read of three");
        BlockTargetSession x = new BlockTargetSession(3, 1);
        Drive.writeThrough(x, 13, 2, 5);
        x.read(13, 3);
        x.send();
        x.deliver(true);
        check.due("waiting(false)", x.waiting(false), 4);
        for (int i = 0; i < 3; i++) {
            messageDue(x, false, i, 1, 3, i, 4, 0);
        }
        messageDue(x, false, 3, 1, 4, 0, 5, 0);
        check.due("count(6)", x.count(6), 2);
        check.due("a read leaves the cache", x.count(4), 1);
        check.due("cached(0)", x.cached(0), 14);
        Drive.settle(x);
        check.due("result(1, 0)", x.result(1, 0), 5);
        check.due("result(1, 1)", x.result(1, 1), 6);
        check.due("result(1, 2)", x.result(1, 2), 0);
    }

    private static void syncGoesDownAsStatus() {
        check.at("promise 6, a sync");
        BlockTargetSession x = new BlockTargetSession(3, 6);
        Drive.writeThrough(x, 2, 3, 5);
        x.sync();
        x.send();
        check.due("count(4) before", x.count(4), 3);
        x.deliver(true);
        messageDue(x, false, 0, 1, 4, 0, 5, 0);
        check.due("waiting(false)", x.waiting(false), 1);
        check.due("count(4)", x.count(4), 0);
        for (int i = 0; i < 3; i++) {
            check.due("disk", x.disk(2 + i), 5 + i);
        }
        x.deliver(false);
        check.due("a sync of an empty cache", x.sync(), 2);
        Drive.finishAll(x);
        check.due("state(2)", x.state(2), 2);
    }

    private static void damagedMessageBreaksUp() {
        check.at("promise 6, damaged on the way up");
        BlockTargetSession x = new BlockTargetSession(4, 6);
        x.write(0, 1, 7);
        x.write(1, 1, 8);
        x.write(2, 2, 9);
        x.send();
        x.send();
        x.send();
        check.due("damage(true, 1)", x.damage(true, 1), DONE);
        check.due("deliver(true), not damaged", x.deliver(true), 0);
        check.due("deliver(true), damaged", x.deliver(true), BROKEN);
        check.due("the damaged one isn't worked", x.present(1), 0);
        check.due("the cache stays", x.present(0), 7);
        check.due("waiting(true)", x.waiting(true), 0);
        check.due("waiting(false)", x.waiting(false), 0);
        for (int request = 0; request < 3; request++) {
            check.due("state(" + request + ")", x.state(request), 0);
        }
        check.due("deliver(true)", x.deliver(true), CLOSED);
        check.due("count(5)", x.count(5), 0);
        check.due("count(6)", x.count(6), 0);
        check.due("count(7)", x.count(7), 0);
        check.due("count(8)", x.count(8), 1);
    }

    private static void damagedMessageBreaksDown() {
        check.at("promise 6, damaged on the way down");
        BlockTargetSession x = new BlockTargetSession(4, 6);
        x.write(0, 1, 7);
        x.sync();
        x.send();
        x.deliver(true);
        x.damage(false, 0);
        check.due("deliver(false)", x.deliver(false), BROKEN);
        check.due("state(0)", x.state(0), 0);
        check.due("the write was done all the same", x.present(0), 7);
        check.due("login()", x.login(), 2);
        check.due("send(), the write again", x.send(), 0);
        check.due("deliver(true)", x.deliver(true), 0);
        check.due("deliver(false)", x.deliver(false), 4);
        check.due("state(0)", x.state(0), 2);
    }

    private static void damageCountsFromTheOldest() {
        check.at("promise 7, which message");
        BlockTargetSession x = new BlockTargetSession(4, 6);
        x.read(0, 3);
        x.send();
        x.deliver(true);
        check.due("damage(false, 2)", x.damage(false, 2), DONE);
        check.due("damage(false, 2) again", x.damage(false, 2), DONE);
        for (int n = 0; n < 4; n++) {
            check.due("message(false, " + n + ", 4)", x.message(false, n, 4), n == 2 ? 1 : 0);
        }
        messageDue(x, false, 2, 0, 3, 2, 4, 1);
        check.due("deliver(false)", x.deliver(false), 3);
        check.due("message(false, 1, 4)", x.message(false, 1, 4), 1);
        check.due("deliver(false)", x.deliver(false), 3);
        check.due("deliver(false)", x.deliver(false), BROKEN);
    }

    private static void damageWithoutMessage() {
        check.at("promise 7, no such message");
        BlockTargetSession x = new BlockTargetSession(4, 6);
        check.due("damage(true, 0)", x.damage(true, 0), NONE);
        check.due("damage(false, 0)", x.damage(false, 0), NONE);
        x.sync();
        x.send();
        String before = Drive.tell(x);
        check.due("damage(false, 0)", x.damage(false, 0), NONE);
        check.due("damage(true, 1)", x.damage(true, 1), NONE);
        check.due("damage(true, -1)", x.damage(true, -1), NONE);
        check.due("damage(true, MIN)", x.damage(true, Integer.MIN_VALUE), NONE);
        check.due("damage(true, MAX)", x.damage(true, Integer.MAX_VALUE), NONE);
        check.due("nothing is changed", before.equals(Drive.tell(x)) ? 1 : 0, 1);
        x.drop();
        check.due("damage(true, 0) without a session", x.damage(true, 0), NONE);
    }

    private static void slotsAreUsedAgainUndamaged() {
        check.at("promise 7, messages after a break");
        BlockTargetSession x = new BlockTargetSession(2, 6);
        x.read(0, 2);
        for (int round = 0; round < 3; round++) {
            x.send();
            x.damage(true, 0);
            x.deliver(true);
            x.login();
            x.send();
            messageDue(x, true, 0, 0, 0, 0, 0, 0);
            x.deliver(true);
            for (int n = 0; n < 3; n++) {
                check.due("message(false, n, 4)", x.message(false, n, 4), 0);
                x.damage(false, n);
            }
            check.due("deliver(false)", x.deliver(false), BROKEN);
            x.login();
        }
        Drive.finishAll(x);
        check.due("state(0)", x.state(0), 2);
    }

    private static void messageTellsItsFields() {
        check.at("promise 17");
        BlockTargetSession x = new BlockTargetSession(4, 6);
        x.sync();
        x.write(5, 3, 1);
        x.read(5, 2);
        x.send();
        x.send();
        x.send();
        messageDue(x, true, 0, 0, 0, 0, 0, 0);
        messageDue(x, true, 1, 1, 0, 0, 0, 0);
        messageDue(x, true, 2, 2, 0, 0, 0, 0);
        x.deliver(true);
        x.deliver(true);
        x.deliver(true);
        messageDue(x, false, 0, 0, 4, 0, 5, 0);
        messageDue(x, false, 1, 1, 2, 1, 5, 0);
        messageDue(x, false, 2, 2, 3, 0, 5, 0);
        messageDue(x, false, 3, 2, 3, 1, 5, 0);
        messageDue(x, false, 4, 2, 4, 0, 6, 0);
        x.deliver(false);
        x.deliver(false);
        messageDue(x, true, 0, 1, 1, 1, 0, 0);
        x.damage(true, 0);
        messageDue(x, true, 0, 1, 1, 1, 0, 1);
    }

    private static void messageWithoutMessageOrField() {
        check.at("promise 17, no such message or field");
        BlockTargetSession x = new BlockTargetSession(4, 6);
        check.due("message(true, 0, 0)", x.message(true, 0, 0), REFUSED);
        check.due("message(false, 0, 0)", x.message(false, 0, 0), REFUSED);
        x.sync();
        x.send();
        check.due("message(true, 1, 0)", x.message(true, 1, 0), REFUSED);
        check.due("message(true, -1, 0)", x.message(true, -1, 0), REFUSED);
        check.due("message(true, MIN, 0)", x.message(true, Integer.MIN_VALUE, 0), REFUSED);
        check.due("message(true, MAX, 0)", x.message(true, Integer.MAX_VALUE, 0), REFUSED);
        check.due("message(true, 0, -1)", x.message(true, 0, -1), REFUSED);
        check.due("message(true, 0, 5)", x.message(true, 0, 5), REFUSED);
        check.due("message(true, 0, MAX)", x.message(true, 0, Integer.MAX_VALUE), REFUSED);
        check.due("message(false, 0, 0)", x.message(false, 0, 0), REFUSED);
        x.drop();
        check.due("message(true, 0, 0) without a session", x.message(true, 0, 0), REFUSED);
    }

    private static void fullLinesAreHeld() {
        check.at("promise 18, the longest lines");
        BlockTargetSession x = new BlockTargetSession(4, 6);
        for (int i = 0; i < 8; i++) {
            x.read(i, 3);
        }
        for (int i = 0; i < 4; i++) {
            check.due("send()", x.send(), i);
        }
        check.due("send()", x.send(), FULL);
        check.due("waiting(true)", x.waiting(true), 4);
        for (int i = 0; i < 4; i++) {
            x.deliver(true);
            check.due("waiting(false)", x.waiting(false), 4 * i + 4);
        }
        for (int i = 4; i < 8; i++) {
            for (int n = 0; n < 4; n++) {
                x.deliver(false);
            }
            check.due("send()", x.send(), i);
            check.due("send()", x.send(), i < 7 ? FULL : NONE);
            x.deliver(true);
            check.due("waiting(false)", x.waiting(false), 16);
            messageDue(x, false, 15, i, 4, 0, i + 5, 0);
        }
        Drive.settle(x);
        check.due("count(3)", x.count(3), 8);
    }

    private static void waitingFollowsTheLines() {
        check.at("promise 18");
        BlockTargetSession x = new BlockTargetSession(4, 6);
        x.read(0, 2);
        x.write(0, 2, 4);
        check.due("waiting(true), nothing sent", x.waiting(true), 0);
        x.send();
        x.send();
        check.due("waiting(true)", x.waiting(true), 2);
        check.due("waiting(false)", x.waiting(false), 0);
        x.deliver(true);
        check.due("waiting(true)", x.waiting(true), 1);
        check.due("waiting(false)", x.waiting(false), 3);
        x.damage(false, 1);
        check.due("waiting(false) after damage", x.waiting(false), 3);
        x.deliver(false);
        check.due("waiting(false)", x.waiting(false), 2);
        check.due("waiting(true)", x.waiting(true), 1);
        x.deliver(false);
        check.due("waiting(true) after the break", x.waiting(true), 0);
        check.due("waiting(false) after the break", x.waiting(false), 0);
        x.login();
        check.due("waiting(true) after login", x.waiting(true), 0);
    }
}
