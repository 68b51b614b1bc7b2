/** Promises 11 and 14 to 16: flush, present, disk and cached. */
public final class StoreTest extends SessionChecks {
    public static void main(String[] args) {
        flushWritesTheFirstBlock();
        flushAnswersTheBlock();
        flushNeedsABlock();
        flushNeedsNoSession();
        presentIsOfABlock();
        presentIsTheCachesElseTheDisks();
        diskIsOfABlock();
        diskChangesOnlyByWriting();
        cachedIsOfAPlace();
        cachedIsOfAFullCache();
        cachedOfAnEmptyCache();
        end("StoreTest");
    }

    /** The CACHE is 8, 2, 5 and is full. */
    private static BlockTargetSession threeCached() {
        BlockTargetSession x = new BlockTargetSession(1, 3);
        Drive.writeThrough(x, 8, 1, 80);
        Drive.writeThrough(x, 2, 1, 20);
        Drive.writeThrough(x, 5, 1, 50);
        return x;
    }

    private static void flushWritesTheFirstBlock() {
        at("promise 11: The target writes its CACHE's first block to the DISK and takes it out of the CACHE");
        BlockTargetSession x = threeCached();
        due("flush()", x.flush(), 8);
        cacheDue(x, 2, 5);
        diskDue(x, 8, 80);
        diskDue(x, 2, 0);
        diskDue(x, 5, 0);
        presentDue(x, 8, 80);
        due("flush()", x.flush(), 2);
        cacheDue(x, 5);
        due("flush(), the last one", x.flush(), 5);
        cacheDue(x);
        diskDue(x, 2, 20);
        diskDue(x, 5, 50);
        sessionDue(x, 3, 3, 4);
    }

    private static void flushAnswersTheBlock() {
        at("promise 11: Answers the block");
        for (int block = 0; block < 16; block++) {
            BlockTargetSession x = Scenes.fresh();
            Drive.writeThrough(x, block, 1, -7);
            due("flush()", x.flush(), block);
            due("disk(" + block + ")", x.disk(block), -7);
        }
    }

    private static void flushNeedsABlock() {
        at("promise 11: the CACHE is empty: NONE");
        still(Scenes::fresh, "flush() of a new object", x -> x.flush(), NONE);
        BlockTargetSession x = threeCached();
        for (int i = 0; i < 3; i++) {
            x.flush();
        }
        due("flush(), all are flushed", x.flush(), NONE);
        BlockTargetSession y = threeCached();
        Drive.syncThrough(y);
        due("flush() after a SYNC", y.flush(), NONE);
        diskDue(y, 8, 80);
        BlockTargetSession z = threeCached();
        z.crash();
        due("flush() after a crash", z.flush(), NONE);
        diskDue(z, 8, 0);
    }

    private static void flushNeedsNoSession() {
        at("promise 11, without a session");
        BlockTargetSession x = Scenes.closed();
        due("flush()", x.flush(), 0);
        diskDue(x, 0, 50, 0);
        due("flush()", x.flush(), 1);
        diskDue(x, 0, 50, 51);
        due("flush()", x.flush(), NONE);
        due("drop(), there is still no session", x.drop(), CLOSED);
    }

    private static void presentIsOfABlock() {
        at("promise 14: The PRESENT value of the block; out of range ABSENT");
        BlockTargetSession x = new BlockTargetSession(1, 6);
        Drive.writeThrough(x, 0, 1, 11);
        Drive.writeThrough(x, 15, 1, 12);
        presentDue(x, 0, 11, 0);
        presentDue(x, 14, 0, 12);
        for (int block : new int[] {MIN, -2, -1, 16, 17, 31, MAX}) {
            still(Scenes::midst, "present(" + block + ")", y -> y.present(block), ABSENT);
        }
    }

    private static void presentIsTheCachesElseTheDisks() {
        at("promise 14: The PRESENT value of the block");
        BlockTargetSession x = Scenes.midst();
        due("present(0), in the cache and on the disk", x.present(0), 50);
        due("present(1), in the cache", x.present(1), 51);
        due("present(2), in neither", x.present(2), 0);
        x.flush();
        due("present(0), on the disk", x.present(0), 50);
        x.crash();
        due("present(0) after a crash", x.present(0), 50);
        due("present(1) after a crash", x.present(1), 0);
    }

    private static void diskIsOfABlock() {
        at("promise 15: The DISK's value of the block; out of range ABSENT");
        BlockTargetSession x = new BlockTargetSession(1, 6);
        Drive.writeThrough(x, 0, 1, 11);
        Drive.writeThrough(x, 15, 1, 12);
        Drive.syncThrough(x);
        diskDue(x, 0, 11, 0);
        diskDue(x, 14, 0, 12);
        for (int block : new int[] {MIN, -2, -1, 16, 17, 31, MAX}) {
            still(Scenes::midst, "disk(" + block + ")", y -> y.disk(block), ABSENT);
        }
    }

    private static void diskChangesOnlyByWriting() {
        at("promise 15: The DISK's value of the block");
        BlockTargetSession x = new BlockTargetSession(1, 6);
        Drive.writeThrough(x, 14, 2, MIN);
        diskDue(x, 14, 0, 0);
        x.flush();
        diskDue(x, 14, MIN, 0);
        x.drop();
        diskDue(x, 14, MIN, 0);
        x.login();
        diskDue(x, 14, MIN, 0);
        Drive.syncThrough(x);
        diskDue(x, 14, MIN, MIN + 1);
        x.crash();
        diskDue(x, 14, MIN, MIN + 1);
    }

    private static void cachedIsOfAPlace() {
        at("promise 16: The block at the place (from 0) in the CACHE; no such place: NONE");
        cacheDue(threeCached(), 8, 2, 5);
        for (int place : new int[] {MIN, -2, -1, 3, 4, 6, 7, MAX}) {
            still(StoreTest::threeCached, "cached(" + place + ")", x -> x.cached(place), NONE);
        }
        // The CACHE holds less than it has room for.
        still(Scenes::midst, "cached(2) of two", x -> x.cached(2), NONE);
        still(Scenes::closed, "cached(1) of two, no session", x -> x.cached(1), 1);
    }

    private static void cachedIsOfAFullCache() {
        at("promise 16: The block at the place, in a CACHE of 1 to 6");
        int[] blocks = {15, 0, 7, 3, 14, 1};
        BlockTargetSession x = new BlockTargetSession(4, 6);
        for (int size = 1; size <= 6; size++) {
            Drive.writeThrough(x, blocks[size - 1], 1, size);
            for (int place = 0; place < 6; place++) {
                due("cached(" + place + ") of " + size, x.cached(place), place < size ? blocks[place] : NONE);
            }
        }
        due("cached(6) of 6", x.cached(6), NONE);
    }

    private static void cachedOfAnEmptyCache() {
        at("promise 16: no such place: NONE, an empty CACHE");
        still(Scenes::fresh, "cached(0) of a new object", x -> x.cached(0), NONE);
        still(Scenes::fresh, "cached(-1) of a new object", x -> x.cached(-1), NONE);
        BlockTargetSession x = threeCached();
        x.crash();
        due("cached(0) after a crash", x.cached(0), NONE);
        BlockTargetSession y = threeCached();
        for (int i = 0; i < 3; i++) {
            y.flush();
        }
        due("cached(0), all are flushed", y.cached(0), NONE);
    }
}
