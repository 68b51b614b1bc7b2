/** The section 'Terms' of the document: how the target works commands, and the initiator takes answers. */
public final class TermsWorkTest extends SessionChecks {
    public static void main(String[] args) {
        requestsAreOpenAtFirst();
        linesAreOldestFirst();
        writeOfOneIsPutAtOnce();
        writeOfMoreIsAskedFor();
        dataOfTheLastIntFinishes();
        dataBeforeTheLastIsAskedOn();
        writesAreWorkedSideBySide();
        readGoesDownInPieces();
        readSeesThePresentValues();
        readLeavesTheCache();
        syncWritesAllOfTheCache();
        carriedIsWithoutTheCommandBeforeItsEnd();
        carriedIsWithTheCommandInItsStatus();
        carriedStaysAsItWas();
        creditStaysAtAnEqualNumber();
        creditBecomesAGreaterNumber();
        askBringsADataUp();
        piecesAreKeptByTheirNumber();
        statusMakesGood();
        end("TermsWorkTest");
    }

    private static void requestsAreOpenAtFirst() {
        at("It is OPEN (0), SENT (1) or GOOD (2); OPEN at first");
        BlockTargetSession x = Scenes.fresh();
        x.write(0, 3, 1);
        x.read(0, 3);
        x.sync();
        statesDue(x, OPEN, OPEN, OPEN);
        linesDue(x, 0, 0);
    }

    private static void linesAreOldestFirst() {
        at("The LINES: lists of MESSAGES, the oldest first; DAMAGED or not (not at first)");
        BlockTargetSession x = new BlockTargetSession(4, 6);
        for (int i = 0; i < 4; i++) {
            x.read(i, 1);
        }
        Drive.send(x, 4);
        for (int n = 0; n < 4; n++) {
            messageDue(x, true, n, n, COMMAND, 0, 0, 0);
        }
        Drive.deliver(x, true, 4);
        for (int n = 0; n < 4; n++) {
            messageDue(x, false, 2 * n, n, PIECE, 0, 4 + n, 0);
            messageDue(x, false, 2 * n + 1, n, STATUS, 0, 5 + n, 0);
        }
    }

    /** A WRITE of so many ints, sent. */
    private static BlockTargetSession sentWrite(int count) {
        BlockTargetSession x = new BlockTargetSession(2, 6);
        x.write(9, count, 30);
        x.send();
        return x;
    }

    private static void writeOfOneIsPutAtOnce() {
        at("COMMAND of a WRITE: if its count is 1, its int is PUT, the command is finished, and a STATUS goes down");
        BlockTargetSession x = sentWrite(1);
        presentDue(x, 9, 0);
        due("deliver(true)", x.deliver(true), COMMAND);
        presentDue(x, 9, 30, 0);
        cacheDue(x, 9);
        linesDue(x, 0, 1);
        messageDue(x, false, 0, 0, STATUS, 0, 3, 0);
        sessionDue(x, 1, 1, 2);
        statesDue(x, SENT);
    }

    private static void writeOfMoreIsAskedFor() {
        at("COMMAND of a WRITE: Else an ASK 1 goes down");
        for (int count = 2; count <= 3; count++) {
            BlockTargetSession x = sentWrite(count);
            due("deliver(true)", x.deliver(true), COMMAND);
            presentDue(x, 9, 0, 0, 0);
            cacheDue(x);
            linesDue(x, 0, 1);
            messageDue(x, false, 0, 0, ASK, 1, 2, 0);
            sessionDue(x, 1, 0, 2);
            statesDue(x, SENT);
        }
    }

    private static void dataOfTheLastIntFinishes() {
        at("DATA i: if i is its count - 1, all its ints are PUT, it is finished, and a STATUS goes down");
        for (int count = 2; count <= 3; count++) {
            BlockTargetSession x = sentWrite(count);
            for (int i = 1; i < count; i++) {
                x.deliver(true);
                x.deliver(false);
            }
            messageDue(x, true, 0, 0, DATA, count - 1, 0, 0);
            cacheDue(x);
            due("deliver(true)", x.deliver(true), DATA);
            due("count(4)", x.count(4), count);
            for (int i = 0; i < 3; i++) {
                presentDue(x, 9 + i, i < count ? 30 + i : 0);
            }
            linesDue(x, 0, 1);
            messageDue(x, false, 0, 0, STATUS, 0, 3, 0);
            sessionDue(x, 1, 1, 2);
        }
    }

    private static void dataBeforeTheLastIsAskedOn() {
        at("DATA i: Else ASK i + 1");
        BlockTargetSession x = sentWrite(3);
        x.deliver(true);
        x.deliver(false);
        messageDue(x, true, 0, 0, DATA, 1, 0, 0);
        due("deliver(true)", x.deliver(true), DATA);
        linesDue(x, 0, 1);
        messageDue(x, false, 0, 0, ASK, 2, 2, 0);
        presentDue(x, 9, 0, 0, 0);
        cacheDue(x);
        sessionDue(x, 1, 0, 2);
    }

    private static void writesAreWorkedSideBySide() {
        at("DATA i: of the request that it is of");
        BlockTargetSession x = new BlockTargetSession(2, 6);
        x.write(0, 2, 10);
        x.write(1, 3, 20);
        Drive.send(x, 2);
        Drive.deliver(x, true, 2);
        Drive.deliver(x, false, 2);
        messageDue(x, true, 0, 0, DATA, 1);
        messageDue(x, true, 1, 1, DATA, 1);
        x.deliver(true);
        presentDue(x, 0, 10, 11, 0, 0);
        x.deliver(true);
        messageDue(x, false, 0, 0, STATUS, 0, 3);
        messageDue(x, false, 1, 1, ASK, 2, 3);
        Drive.settle(x);
        presentDue(x, 0, 10, 20, 21, 22);
        cacheDue(x, 0, 1, 2, 3);
        statesDue(x, GOOD, GOOD);
    }

    private static void readGoesDownInPieces() {
        at("COMMAND of a READ: for i = 0 .. count - 1 in this order a PIECE i goes down;"
                + " then it is finished and a STATUS goes down");
        for (int count = 1; count <= 3; count++) {
            BlockTargetSession x = new BlockTargetSession(3, 6);
            x.read(13, count);
            x.send();
            due("deliver(true)", x.deliver(true), COMMAND);
            linesDue(x, 0, count + 1);
            for (int i = 0; i < count; i++) {
                messageDue(x, false, i, 0, PIECE, i, 3, 0);
            }
            messageDue(x, false, count, 0, STATUS, 0, 4, 0);
            sessionDue(x, 1, 1, 3);
        }
    }

    private static void readSeesThePresentValues() {
        at("COMMAND of a READ: a PIECE i goes down with the PRESENT value of block first + i");
        BlockTargetSession x = new BlockTargetSession(3, 1);
        Drive.writeThrough(x, 0, 2, 7);
        x.read(0, 3);
        x.write(1, 1, 99);
        x.read(0, 3);
        Drive.send(x, 3);
        Drive.deliver(x, true, 2);
        // A later write does not change a PIECE that is on its way.
        presentDue(x, 0, 7, 99, 0);
        Drive.settle(x);
        resultsDue(x, 1, 7, 8, 0, ABSENT);
        resultsDue(x, 3, 7, 99, 0, ABSENT);
    }

    private static void readLeavesTheCache() {
        at("COMMAND of a READ: nothing is PUT");
        BlockTargetSession x = new BlockTargetSession(3, 2);
        Drive.writeThrough(x, 0, 2, 7);
        Drive.readThrough(x, 1, 3);
        Drive.readThrough(x, 0, 1);
        cacheDue(x, 0, 1);
        diskDue(x, 0, 0, 0, 0);
    }

    private static void syncWritesAllOfTheCache() {
        at("COMMAND of a SYNC: all of the CACHE goes, the ints being written to the DISK;"
                + " it's finished and a STATUS goes down");
        for (int size = 0; size <= 6; size++) {
            BlockTargetSession x = new BlockTargetSession(1, 6);
            for (int block = 0; block < size; block++) {
                Drive.writeThrough(x, block, 1, 30 + block);
            }
            x.sync();
            x.send();
            due("count(4) before", x.count(4), size);
            diskDue(x, 0, 0, 0, 0, 0, 0, 0);
            due("deliver(true)", x.deliver(true), COMMAND);
            cacheDue(x);
            for (int block = 0; block < 7; block++) {
                diskDue(x, block, block < size ? 30 + block : 0);
                presentDue(x, block, block < size ? 30 + block : 0);
            }
            linesDue(x, 0, 1);
            messageDue(x, false, 0, size, STATUS, 0, size + 2, 0);
            sessionDue(x, size + 1, size + 1, size + 1);
        }
    }

    private static void carriedIsWithoutTheCommandBeforeItsEnd() {
        at("Each DOWN message carries the number DONES + WINDOW as it was when it was put on the line");
        BlockTargetSession x = new BlockTargetSession(3, 6);
        Drive.syncThrough(x);
        x.write(0, 3, 1);
        x.read(0, 2);
        Drive.send(x, 2);
        x.deliver(true);
        messageDue(x, false, 0, 1, ASK, 1, 4);
        x.deliver(true);
        messageDue(x, false, 1, 2, PIECE, 0, 4);
        messageDue(x, false, 2, 2, PIECE, 1, 4);
        x.deliver(false);
        x.deliver(true);
        messageDue(x, false, 3, 1, ASK, 2, 5);
    }

    private static void carriedIsWithTheCommandInItsStatus() {
        at("DONES + WINDOW (after the command was finished, if it's a STATUS)");
        for (int window = 1; window <= 4; window++) {
            BlockTargetSession x = new BlockTargetSession(window, 6);
            x.write(0, 1, 1);
            x.write(0, 2, 1);
            x.read(0, 1);
            x.sync();
            for (int request = 0; request < 4; request++) {
                x.send();
                x.deliver(true);
                if (request == 1) {
                    x.deliver(false);
                    x.deliver(true);
                }
                if (request == 2) {
                    messageDue(x, false, 0, 2, PIECE, 0, 2 + window);
                    x.deliver(false);
                }
                messageDue(x, false, 0, request, STATUS, 0, request + 1 + window);
                x.deliver(false);
            }
        }
    }

    private static void carriedStaysAsItWas() {
        at("carries the number as it was when it was put on the line");
        BlockTargetSession x = new BlockTargetSession(4, 6);
        x.write(0, 2, 1);
        x.sync();
        x.sync();
        Drive.send(x, 3);
        Drive.deliver(x, true, 3);
        sessionDue(x, 3, 2, 4);
        messageDue(x, false, 0, 0, ASK, 1, 4);
        messageDue(x, false, 1, 1, STATUS, 0, 5);
        messageDue(x, false, 2, 2, STATUS, 0, 6);
        x.deliver(false);
        due("CREDIT", x.count(7), 4);
        x.deliver(false);
        due("CREDIT", x.count(7), 5);
        messageDue(x, false, 0, 2, STATUS, 0, 6);
        x.deliver(false);
        due("CREDIT", x.count(7), 6);
    }

    private static void creditStaysAtAnEqualNumber() {
        at("CREDIT becomes the number it carries if that is greater; it is equal");
        for (int window = 1; window <= 4; window++) {
            BlockTargetSession x = new BlockTargetSession(window, 6);
            x.write(0, 3, 1);
            x.read(0, 1);
            x.send();
            x.deliver(true);
            messageDue(x, false, 0, 0, ASK, 1, window);
            x.deliver(false);
            due("CREDIT after an ASK", x.count(7), window);
            Drive.settle(x);
            due("CREDIT", x.count(7), window + 1);
            x.send();
            x.deliver(true);
            messageDue(x, false, 0, 1, PIECE, 0, window + 1);
            x.deliver(false);
            due("CREDIT after a PIECE", x.count(7), window + 1);
        }
    }

    private static void creditBecomesAGreaterNumber() {
        at("CREDIT becomes the number it carries if that is greater; it is greater");
        BlockTargetSession x = new BlockTargetSession(2, 2);
        x.sync();
        x.read(0, 1);
        x.sync();
        x.sync();
        Drive.send(x, 2);
        Drive.deliver(x, true, 2);
        sessionDue(x, 2, 2, 2);
        x.deliver(false);
        due("CREDIT after a STATUS", x.count(7), 3);
        x.deliver(false);
        due("CREDIT after a PIECE of the same number", x.count(7), 3);
        x.deliver(false);
        due("CREDIT after the second STATUS", x.count(7), 4);
        Drive.send(x, 2);
        sessionDue(x, 4, 2, 4);
        Drive.settle(x);
        sessionDue(x, 4, 4, 6);
    }

    private static void askBringsADataUp() {
        at("ASK i: a DATA i of the request goes up");
        BlockTargetSession x = new BlockTargetSession(3, 6);
        x.sync();
        x.write(0, 3, 1);
        x.read(0, 1);
        Drive.send(x, 2);
        Drive.deliver(x, true, 2);
        x.deliver(false);
        x.send();
        due("deliver(false)", x.deliver(false), ASK);
        linesDue(x, 2, 0);
        messageDue(x, true, 0, 2, COMMAND, 0, 0, 0);
        messageDue(x, true, 1, 1, DATA, 1, 0, 0);
        statesDue(x, GOOD, SENT, SENT);
        sessionDue(x, 3, 1, 4);
        Drive.deliver(x, true, 2);
        Drive.deliver(x, false, 3);
        linesDue(x, 1, 0);
        messageDue(x, true, 0, 1, DATA, 2, 0, 0);
    }

    private static void piecesAreKeptByTheirNumber() {
        at("PIECE i: the int is kept as the request's result i");
        BlockTargetSession x = new BlockTargetSession(3, 6);
        Drive.writeThrough(x, 0, 3, -1);
        x.read(0, 3);
        x.read(2, 1);
        Drive.send(x, 2);
        Drive.deliver(x, true, 2);
        Drive.deliver(x, false, 4);
        resultsDue(x, 1, -1, 0, 1, ABSENT);
        resultsDue(x, 2, ABSENT);
        Drive.deliver(x, false, 2);
        resultsDue(x, 2, 1, ABSENT);
        resultsDue(x, 1, -1, 0, 1);
    }

    private static void statusMakesGood() {
        at("STATUS: the request is GOOD");
        BlockTargetSession x = new BlockTargetSession(3, 6);
        x.write(0, 2, 1);
        x.read(0, 1);
        x.sync();
        Drive.send(x, 3);
        Drive.deliver(x, true, 3);
        statesDue(x, SENT, SENT, SENT);
        Drive.deliver(x, false, 2);
        statesDue(x, SENT, SENT, SENT);
        x.deliver(false);
        statesDue(x, SENT, GOOD, SENT);
        x.deliver(false);
        statesDue(x, SENT, GOOD, GOOD);
        x.deliver(true);
        statesDue(x, SENT, GOOD, GOOD);
        x.deliver(false);
        statesDue(x, GOOD, GOOD, GOOD);
    }
}
