import java.util.function.Supplier;

/** Promises 5 to 7, 17 and 18: send, deliver, damage, message and waiting. */
public final class LinesTest extends SessionChecks {
    public static void main(String[] args) {
        sendTakesTheLeastOpenRequest();
        sendTakesAReopenedRequestFirst();
        sendGoesUpToTheCredit();
        sendNeedsASession();
        sendNeedsAnOpenRequest();
        sendTestsOpenBeforeCredit();
        deliverNeedsASession();
        deliverNeedsAMessage();
        deliverTakesTheOldest();
        deliverAnswersTheKind();
        damagedCommandIsNotWorked();
        damagedDataIsNotWorked();
        damagedDownMessageIsNotTaken();
        onlyTheOldestBreaks();
        damageIsOfOneMessage();
        damageAgainIsDone();
        damageNeedsAMessage();
        laterMessagesAreNotDamaged();
        messageTellsItsFields();
        messageNeedsAMessage();
        messageNeedsAField();
        waitingFollowsTheLines();
        waitingAtTheLongest();
        longestLinesFromEveryBeginning();
        end("LinesTest");
    }

    private static void sendTakesTheLeastOpenRequest() {
        at("promise 5: the OPEN request with the least number: SENT, SENDS grows by one, a COMMAND of it goes up");
        BlockTargetSession x = new BlockTargetSession(4, 2);
        x.write(0, 1, 1);
        x.read(0, 1);
        x.sync();
        due("send()", x.send(), 0);
        statesDue(x, SENT, OPEN, OPEN);
        sessionDue(x, 1, 0, 4);
        linesDue(x, 1, 0);
        due("send()", x.send(), 1);
        due("send(), the last one", x.send(), 2);
        statesDue(x, SENT, SENT, SENT);
        sessionDue(x, 3, 0, 4);
        linesDue(x, 3, 0);
        for (int n = 0; n < 3; n++) {
            messageDue(x, true, n, n, COMMAND, 0, 0, 0);
        }
        presentDue(x, 0, 0);
    }

    private static void sendTakesAReopenedRequestFirst() {
        at("promise 5: the OPEN request with the least number, after a break");
        BlockTargetSession x = Scenes.closed();
        due("login()", x.login(), 4);
        due("send(), 0 to 2 are GOOD", x.send(), 3);
        due("send()", x.send(), 4);
        due("send()", x.send(), 5);
        due("send()", x.send(), FULL);
        sessionDue(x, 3, 0, 3);
        Drive.settle(x);
        due("send()", x.send(), 6);
        due("send()", x.send(), NONE);
    }

    /** A session with so many commands sent of which the first so many are GOOD, and one OPEN request more. */
    private static BlockTargetSession sentAndGood(int window, int sent, int good) {
        BlockTargetSession x = new BlockTargetSession(window, 2);
        for (int i = 0; i <= sent; i++) {
            x.sync();
        }
        for (int i = 0; i < good; i++) {
            x.send();
            x.deliver(true);
            x.deliver(false);
        }
        Drive.send(x, sent - good);
        return x;
    }

    private static void sendGoesUpToTheCredit() {
        at("promise 5: SENDS is not below CREDIT: FULL");
        for (int window = 1; window <= 4; window++) {
            for (int good = 0; good <= 2; good++) {
                int w = window;
                int g = good;
                BlockTargetSession below = sentAndGood(w, g + w - 1, g);
                sessionDue(below, g + w - 1, g, g + w);
                due("send(), SENDS one below CREDIT", below.send(), g + w - 1);
                sessionDue(below, g + w, g, g + w);
                Supplier<BlockTargetSession> at = () -> sentAndGood(w, g + w, g);
                sessionDue(at.get(), g + w, g, g + w);
                still(at, "send(), SENDS at CREDIT", x -> x.send(), FULL);
            }
        }
        BlockTargetSession x = sentAndGood(2, 2, 0);
        x.deliver(true);
        due("send(), finished but its STATUS not taken", x.send(), FULL);
        x.deliver(false);
        due("send(), its STATUS taken", x.send(), 2);
    }

    private static void sendNeedsASession() {
        at("promise 5: no session: CLOSED");
        still(Scenes::closed, "send() with OPEN requests", x -> x.send(), CLOSED);
        still(() -> dropped(Scenes.fresh()), "send() without requests", x -> x.send(), CLOSED);
        still(() -> dropped(readOneThrough()), "send() with GOOD requests alone", x -> x.send(), CLOSED);
        BlockTargetSession x = Scenes.closed();
        x.login();
        due("send() in a new session", x.send(), 3);
    }

    private static BlockTargetSession dropped(BlockTargetSession x) {
        x.drop();
        return x;
    }

    private static BlockTargetSession readOneThrough() {
        BlockTargetSession x = new BlockTargetSession(1, 1);
        Drive.readThrough(x, 0, 1);
        return x;
    }

    private static void sendNeedsAnOpenRequest() {
        at("promise 5: no request is OPEN: NONE");
        still(Scenes::fresh, "send() without requests", x -> x.send(), NONE);
        still(LinesTest::readOneThrough, "send() with GOOD requests alone", x -> x.send(), NONE);
        still(Scenes::readWorked, "send() with SENT and GOOD requests alone", x -> x.send(), NONE);
        BlockTargetSession x = Scenes.readWorked();
        x.sync();
        due("send() with one OPEN", x.send(), 3);
    }

    private static void sendTestsOpenBeforeCredit() {
        at("promise 5: Tested in this order: no request is OPEN: NONE; SENDS is not below CREDIT: FULL");
        BlockTargetSession x = new BlockTargetSession(1, 2);
        x.sync();
        x.send();
        sessionDue(x, 1, 0, 1);
        due("send(), none OPEN and SENDS at CREDIT", x.send(), NONE);
        x.sync();
        due("send(), one OPEN and SENDS at CREDIT", x.send(), FULL);
        x.drop();
        due("send(), one OPEN and no session", x.send(), CLOSED);
    }

    private static void deliverNeedsASession() {
        at("promise 6: No session: CLOSED");
        still(Scenes::closed, "deliver(true)", x -> x.deliver(true), CLOSED);
        still(Scenes::closed, "deliver(false)", x -> x.deliver(false), CLOSED);
        BlockTargetSession x = Scenes.closed();
        x.login();
        due("deliver(true) in a new session", x.deliver(true), NONE);
        due("deliver(false) in a new session", x.deliver(false), NONE);
    }

    private static void deliverNeedsAMessage() {
        at("promise 6: the line is empty: NONE");
        still(Scenes::fresh, "deliver(true)", x -> x.deliver(true), NONE);
        still(Scenes::fresh, "deliver(false)", x -> x.deliver(false), NONE);
        still(() -> sentAndGood(2, 2, 0), "deliver(false), UP has two", x -> x.deliver(false), NONE);
        BlockTargetSession x = sentAndGood(2, 1, 0);
        due("deliver(true), UP has one", x.deliver(true), COMMAND);
        linesDue(x, 0, 1);
        due("deliver(true), DOWN has one", x.deliver(true), NONE);
        due("deliver(false), DOWN has one", x.deliver(false), STATUS);
        linesDue(x, 0, 0);
        due("deliver(false), none is left", x.deliver(false), NONE);
    }

    private static void deliverTakesTheOldest() {
        at("promise 6: The oldest message of the line is taken off it");
        BlockTargetSession x = new BlockTargetSession(4, 2);
        for (int i = 0; i < 4; i++) {
            x.write(i, 1, 10 + i);
        }
        Drive.send(x, 4);
        for (int i = 0; i < 4; i++) {
            messageDue(x, true, 0, i, COMMAND);
            due("deliver(true)", x.deliver(true), COMMAND);
            linesDue(x, 3 - i, i + 1);
            due("present(" + i + ")", x.present(i), 10 + i);
        }
        for (int i = 0; i < 4; i++) {
            messageDue(x, false, 0, i, STATUS);
            due("deliver(false)", x.deliver(false), STATUS);
            linesDue(x, 0, 3 - i);
            due("state(" + i + ")", x.state(i), GOOD);
            due("count(3)", x.count(3), i + 1);
        }
    }

    private static void deliverAnswersTheKind() {
        at("promise 6: Else its kind, 0 .. 4");
        BlockTargetSession x = Scenes.fresh();
        x.write(0, 2, 1);
        x.read(0, 1);
        x.send();
        due("COMMAND", x.deliver(true), 0);
        due("ASK", x.deliver(false), 2);
        due("DATA", x.deliver(true), 1);
        due("STATUS", x.deliver(false), 4);
        x.send();
        due("COMMAND", x.deliver(true), 0);
        due("PIECE", x.deliver(false), 3);
        due("STATUS", x.deliver(false), 4);
    }

    private static void damagedCommandIsNotWorked() {
        at("promise 6: It is DAMAGED: it isn't worked, the session BREAKS, and BROKEN is answered; a COMMAND");
        BlockTargetSession x = new BlockTargetSession(4, 6);
        Drive.writeThrough(x, 0, 1, 7);
        x.write(1, 1, 8);
        x.sync();
        x.send();
        x.damage(true, 0);
        due("deliver(true), a WRITE", x.deliver(true), BROKEN);
        presentDue(x, 0, 7, 0);
        cacheDue(x, 0);
        statesDue(x, GOOD, OPEN, OPEN);
        linesDue(x, 0, 0);
        sessionDue(x, 0, 0, 0);
        due("deliver(true), the session is broken", x.deliver(true), CLOSED);
        due("login()", x.login(), 2);
        Drive.send(x, 2);
        x.damage(true, 1);
        due("deliver(true), the WRITE again", x.deliver(true), COMMAND);
        due("deliver(true), a SYNC", x.deliver(true), BROKEN);
        cacheDue(x, 0, 1);
        diskDue(x, 0, 0, 0);
        presentDue(x, 0, 7, 8);
        statesDue(x, GOOD, OPEN, OPEN);
    }

    private static void damagedDataIsNotWorked() {
        at("promise 6: It is DAMAGED: it isn't worked; a DATA");
        BlockTargetSession x = Scenes.fresh();
        x.write(5, 2, 20);
        x.send();
        x.deliver(true);
        x.deliver(false);
        messageDue(x, true, 0, 0, DATA, 1, 0, 0);
        x.damage(true, 0);
        due("deliver(true)", x.deliver(true), BROKEN);
        presentDue(x, 5, 0, 0);
        cacheDue(x);
        statesDue(x, OPEN);
        linesDue(x, 0, 0);
    }

    private static void damagedDownMessageIsNotTaken() {
        at("promise 6: It is DAMAGED: it isn't worked; a DOWN message");
        BlockTargetSession x = Scenes.fresh();
        x.write(5, 2, 20);
        x.send();
        x.deliver(true);
        x.damage(false, 0);
        due("deliver(false), an ASK", x.deliver(false), BROKEN);
        linesDue(x, 0, 0);
        statesDue(x, OPEN);
        BlockTargetSession y = Scenes.fresh();
        y.write(0, 1, 7);
        y.send();
        y.deliver(true);
        y.damage(false, 0);
        due("deliver(false), a STATUS", y.deliver(false), BROKEN);
        statesDue(y, OPEN);
        sessionDue(y, 0, 0, 0);
        presentDue(y, 0, 7);
        BlockTargetSession z = Scenes.readWorked();
        z.damage(false, 0);
        due("deliver(false), a PIECE", z.deliver(false), BROKEN);
        statesDue(z, GOOD, OPEN, OPEN);
        resultsDue(z, 1, ABSENT);
        due("count(8)", z.count(8), 1);
    }

    private static void onlyTheOldestBreaks() {
        at("promise 6: The oldest message of the line; It is DAMAGED");
        BlockTargetSession x = Scenes.readWorked();
        x.damage(false, 1);
        x.damage(true, 0);
        due("deliver(false), those behind and UP are damaged", x.deliver(false), PIECE);
        linesDue(x, 1, 3);
        due("deliver(false), the damaged one", x.deliver(false), BROKEN);
        linesDue(x, 0, 0);
        BlockTargetSession y = Scenes.readWorked();
        y.damage(false, 0);
        due("deliver(true), DOWN is damaged", y.deliver(true), COMMAND);
        messageDue(y, false, 0, 1, PIECE, 0, 5, 1);
        due("deliver(false)", y.deliver(false), BROKEN);
    }

    private static void damageIsOfOneMessage() {
        at("promise 7: Message n (from 0, the oldest) of the line becomes DAMAGED: DONE");
        for (int n = 0; n < 4; n++) {
            BlockTargetSession x = Scenes.readWorked();
            due("damage(false, " + n + ")", x.damage(false, n), DONE);
            for (int k = 0; k < 4; k++) {
                due("message(false, " + k + ", 4)", x.message(false, k, 4), k == n ? 1 : 0);
            }
            due("message(true, 0, 4)", x.message(true, 0, 4), 0);
            linesDue(x, 1, 4);
            for (int k = 0; k < n; k++) {
                due("deliver(false), before the damaged one", x.deliver(false), PIECE);
            }
            due("deliver(false), the damaged one", x.deliver(false), BROKEN);
        }
        BlockTargetSession x = Scenes.readWorked();
        due("damage(true, 0)", x.damage(true, 0), DONE);
        messageDue(x, true, 0, 2, COMMAND, 0, 0, 1);
        due("message(false, 0, 4)", x.message(false, 0, 4), 0);
        due("deliver(true)", x.deliver(true), BROKEN);
    }

    private static BlockTargetSession damagedTwo() {
        BlockTargetSession x = Scenes.readWorked();
        x.damage(false, 2);
        x.damage(true, 0);
        return x;
    }

    private static void damageAgainIsDone() {
        at("promise 7: becomes DAMAGED, also if it was: DONE");
        still(LinesTest::damagedTwo, "damage(false, 2) again", x -> x.damage(false, 2), DONE);
        still(LinesTest::damagedTwo, "damage(true, 0) again", x -> x.damage(true, 0), DONE);
    }

    private static void damageNeedsAMessage() {
        at("promise 7: No such message: NONE");
        for (int n : new int[] {MIN, -2, -1, 4, 5, 16, MAX}) {
            still(Scenes::readWorked, "damage(false, " + n + ")", x -> x.damage(false, n), NONE);
        }
        for (int n : new int[] {MIN, -1, 1, 2, 3, 4, MAX}) {
            still(Scenes::readWorked, "damage(true, " + n + ")", x -> x.damage(true, n), NONE);
        }
        for (boolean up : new boolean[] {true, false}) {
            still(Scenes::fresh, "damage(" + up + ", 0), empty lines", x -> x.damage(up, 0), NONE);
            still(Scenes::fresh, "damage(" + up + ", -1), empty lines", x -> x.damage(up, -1), NONE);
            still(Scenes::closed, "damage(" + up + ", 0), no session", x -> x.damage(up, 0), NONE);
            still(Scenes::closed, "damage(" + up + ", -1), no session", x -> x.damage(up, -1), NONE);
        }
    }

    private static void laterMessagesAreNotDamaged() {
        at("promise 7: the messages that come after a damaged one");
        BlockTargetSession x = Scenes.fresh();
        x.read(0, 2);
        for (int round = 0; round < 3; round++) {
            x.send();
            messageDue(x, true, 0, 0, COMMAND, 0, 0, 0);
            x.damage(true, 0);
            due("deliver(true)", x.deliver(true), BROKEN);
            x.login();
            x.send();
            due("deliver(true)", x.deliver(true), COMMAND);
            for (int n = 0; n < 3; n++) {
                due("message(false, " + n + ", 4)", x.message(false, n, 4), 0);
                x.damage(false, n);
            }
            due("deliver(false)", x.deliver(false), BROKEN);
            x.login();
        }
        Drive.finishAll(x);
        statesDue(x, GOOD);
    }

    private static void messageTellsItsFields() {
        at("promise 17: its request, kind, number i, the number it carries, DAMAGED");
        BlockTargetSession x = new BlockTargetSession(4, 6);
        x.sync();
        x.write(5, 3, 1);
        x.read(5, 3);
        Drive.send(x, 3);
        for (int n = 0; n < 3; n++) {
            messageDue(x, true, n, n, COMMAND, 0, 0, 0);
        }
        Drive.deliver(x, true, 3);
        messageDue(x, false, 0, 0, STATUS, 0, 5, 0);
        messageDue(x, false, 1, 1, ASK, 1, 5, 0);
        messageDue(x, false, 2, 2, PIECE, 0, 5, 0);
        messageDue(x, false, 3, 2, PIECE, 1, 5, 0);
        messageDue(x, false, 4, 2, PIECE, 2, 5, 0);
        messageDue(x, false, 5, 2, STATUS, 0, 6, 0);
        Drive.deliver(x, false, 2);
        messageDue(x, true, 0, 1, DATA, 1, 0, 0);
        x.deliver(true);
        messageDue(x, false, 4, 1, ASK, 2, 6, 0);
        Drive.deliver(x, false, 5);
        messageDue(x, true, 0, 1, DATA, 2, 0, 0);
        x.damage(true, 0);
        messageDue(x, true, 0, 1, DATA, 2, 0, 1);
    }

    private static void messageNeedsAMessage() {
        at("promise 17: No such message: REFUSED");
        BlockTargetSession x = Scenes.readWorked();
        due("message(false, 0, 1), the first", x.message(false, 0, 1), PIECE);
        due("message(false, 3, 1), the last", x.message(false, 3, 1), STATUS);
        due("message(true, 0, 1), the only one", x.message(true, 0, 1), COMMAND);
        for (int field = 0; field <= 4; field++) {
            int f = field;
            for (int n : new int[] {MIN, -1, 4, 5, 16, MAX}) {
                still(Scenes::readWorked, "message(false, " + n + ", " + f + ")", y -> y.message(false, n, f), REFUSED);
            }
            for (int n : new int[] {MIN, -1, 1, 3, 4, MAX}) {
                still(Scenes::readWorked, "message(true, " + n + ", " + f + ")", y -> y.message(true, n, f), REFUSED);
            }
            for (boolean up : new boolean[] {true, false}) {
                still(Scenes::fresh, "message(" + up + ", 0, " + f + "), empty lines",
                        y -> y.message(up, 0, f), REFUSED);
                still(Scenes::closed, "message(" + up + ", 0, " + f + "), no session",
                        y -> y.message(up, 0, f), REFUSED);
            }
        }
    }

    private static void messageNeedsAField() {
        at("promise 17: No such field: REFUSED");
        BlockTargetSession x = damagedTwo();
        due("message(false, 2, 0), the first field", x.message(false, 2, 0), 1);
        due("message(false, 2, 4), the last field", x.message(false, 2, 4), 1);
        for (int field : new int[] {MIN, -2, -1, 5, 6, MAX}) {
            for (boolean up : new boolean[] {true, false}) {
                still(LinesTest::damagedTwo, "message(" + up + ", 0, " + field + ")",
                        y -> y.message(up, 0, field), REFUSED);
                still(Scenes::fresh, "message(" + up + ", 0, " + field + "), empty lines",
                        y -> y.message(up, 0, field), REFUSED);
            }
        }
    }

    private static void waitingFollowsTheLines() {
        at("promise 18: How many messages the line has");
        BlockTargetSession x = new BlockTargetSession(4, 6);
        x.read(0, 2);
        x.write(0, 2, 4);
        linesDue(x, 0, 0);
        Drive.send(x, 2);
        linesDue(x, 2, 0);
        x.deliver(true);
        linesDue(x, 1, 3);
        x.damage(false, 1);
        linesDue(x, 1, 3);
        x.deliver(false);
        linesDue(x, 1, 2);
        x.deliver(false);
        linesDue(x, 0, 0);
        x.login();
        linesDue(x, 0, 0);
        still(Scenes::midst, "waiting(true)", y -> y.waiting(true), 1);
        still(Scenes::midst, "waiting(false)", y -> y.waiting(false), 4);
        still(Scenes::closed, "waiting(true), no session", y -> y.waiting(true), 0);
        still(Scenes::closed, "waiting(false), no session", y -> y.waiting(false), 0);
    }

    private static void waitingAtTheLongest() {
        at("promise 18: How many messages the line has, at the most");
        BlockTargetSession x = new BlockTargetSession(4, 6);
        for (int i = 0; i < 8; i++) {
            x.read(i, 3);
        }
        for (int i = 0; i < 4; i++) {
            due("send()", x.send(), i);
            linesDue(x, i + 1, 0);
        }
        due("send()", x.send(), FULL);
        for (int i = 0; i < 4; i++) {
            x.deliver(true);
            linesDue(x, 3 - i, 4 * i + 4);
        }
        for (int i = 4; i < 8; i++) {
            Drive.deliver(x, false, 4);
            due("send()", x.send(), i);
            due("send()", x.send(), i < 7 ? FULL : NONE);
            x.deliver(true);
            linesDue(x, 0, 16);
            messageDue(x, false, 12, i, PIECE, 0, i + 4, 0);
            messageDue(x, false, 15, i, STATUS, 0, i + 5, 0);
        }
        Drive.settle(x);
        due("count(3)", x.count(3), 8);
        linesDue(x, 0, 0);
    }

    private static void longestLinesFromEveryBeginning() {
        at("promise 18: How many messages the line has, at the most, after so many others");
        for (int before = 0; before <= 17; before++) {
            BlockTargetSession x = new BlockTargetSession(4, 6);
            for (int i = 0; i < before; i++) {
                Drive.syncThrough(x);
            }
            for (int i = 0; i < 4; i++) {
                x.read(i, 3);
            }
            Drive.send(x, 4);
            linesDue(x, 4, 0);
            for (int i = 0; i < 4; i++) {
                messageDue(x, true, i, before + i, COMMAND);
            }
            Drive.deliver(x, true, 4);
            linesDue(x, 0, 16);
            for (int n = 0; n < 16; n++) {
                int i = n % 4;
                messageDue(x, false, n, before + n / 4, i < 3 ? PIECE : STATUS, i < 3 ? i : 0);
            }
            due("message(false, 16, 0)", x.message(false, 16, 0), REFUSED);
            due("damage(false, 15)", x.damage(false, 15), DONE);
            due("damage(false, 16)", x.damage(false, 16), NONE);
        }
    }
}
