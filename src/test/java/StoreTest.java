/** Promises 11 and 14 to 16: flush, present, disk and cached; and PUTTING. */
public final class StoreTest {
    private static final int NONE = BlockTargetSession.NONE;
    private static final long ABSENT = BlockTargetSession.ABSENT;
    private static final Check check = new Check("StoreTest");

    public static void main(String[] args) {
        flushWritesTheFirstBlock();
        flushWithoutASession();
        presentIsCacheElseDisk();
        diskChangesOnlyByWritingBack();
        blocksOutOfRange();
        cachedTellsTheOrder();
        putKeepsThePlace();
        putSendsTheFirstBlockAway();
        longWriteInASmallRoom();
        blockComesBackBehindTheOthers();
        syncEmptiesAFullCache();
        check.end();
    }

    private static void cacheDue(BlockTargetSession x, int... blocks) {
        check.due("count(4)", x.count(4), blocks.length);
        for (int place = 0; place < blocks.length; place++) {
            check.due("cached(" + place + ")", x.cached(place), blocks[place]);
        }
        check.due("cached(" + blocks.length + ")", x.cached(blocks.length), NONE);
    }

    private static void flushWritesTheFirstBlock() {
        check.at("promise 11");
        BlockTargetSession x = new BlockTargetSession(1, 6);
        check.due("flush() of an empty cache", x.flush(), NONE);
        Drive.writeThrough(x, 8, 1, 80);
        Drive.writeThrough(x, 2, 1, 20);
        Drive.writeThrough(x, 5, 1, 50);
        check.due("flush()", x.flush(), 8);
        check.due("disk(8)", x.disk(8), 80);
        check.due("disk(2)", x.disk(2), 0);
        check.due("present(8)", x.present(8), 80);
        cacheDue(x, 2, 5);
        check.due("flush()", x.flush(), 2);
        check.due("flush()", x.flush(), 5);
        check.due("disk(5)", x.disk(5), 50);
        check.due("flush()", x.flush(), NONE);
        cacheDue(x);
        check.due("sends are untouched", x.count(5), 3);
    }

    private static void flushWithoutASession() {
        check.at("promise 11, no session");
        BlockTargetSession x = new BlockTargetSession(1, 6);
        Drive.writeThrough(x, 0, 2, 80);
        x.drop();
        check.due("flush()", x.flush(), 0);
        check.due("disk(0)", x.disk(0), 80);
        x.crash();
        check.due("flush()", x.flush(), NONE);
        check.due("disk(1)", x.disk(1), 0);
    }

    private static void presentIsCacheElseDisk() {
        check.at("promise 14");
        BlockTargetSession x = new BlockTargetSession(1, 6);
        Drive.writeThrough(x, 3, 1, 33);
        check.due("present(3) in the cache", x.present(3), 33);
        x.flush();
        check.due("present(3) on the disk", x.present(3), 33);
        Drive.writeThrough(x, 3, 1, -34);
        check.due("present(3), the cache goes first", x.present(3), -34);
        check.due("disk(3)", x.disk(3), 33);
        x.crash();
        check.due("present(3) after a crash", x.present(3), 33);
        check.due("present(0)", x.present(0), 0);
    }

    private static void diskChangesOnlyByWritingBack() {
        check.at("promise 15");
        BlockTargetSession x = new BlockTargetSession(1, 6);
        Drive.writeThrough(x, 14, 2, Integer.MIN_VALUE);
        check.due("disk(14)", x.disk(14), 0);
        x.flush();
        check.due("disk(14)", x.disk(14), Integer.MIN_VALUE);
        check.due("disk(15)", x.disk(15), 0);
        x.drop();
        x.login();
        check.due("disk(14) after a break", x.disk(14), Integer.MIN_VALUE);
        x.sync();
        Drive.finishAll(x);
        check.due("disk(15)", x.disk(15), Integer.MIN_VALUE + 1);
        x.crash();
        check.due("disk(15) after a crash", x.disk(15), Integer.MIN_VALUE + 1);
    }

    private static void blocksOutOfRange() {
        check.at("promises 14 and 15, out of range");
        BlockTargetSession x = new BlockTargetSession(1, 6);
        int[] wrong = {-1, 16, 17, Integer.MIN_VALUE, Integer.MAX_VALUE};
        for (int block : wrong) {
            check.due("present(" + block + ")", x.present(block), ABSENT);
            check.due("disk(" + block + ")", x.disk(block), ABSENT);
        }
        check.due("present(15)", x.present(15), 0);
        check.due("disk(15)", x.disk(15), 0);
    }

    private static void cachedTellsTheOrder() {
        check.at("promise 16");
        BlockTargetSession x = new BlockTargetSession(1, 6);
        cacheDue(x);
        Drive.writeThrough(x, 9, 1, 1);
        Drive.writeThrough(x, 0, 1, 1);
        Drive.writeThrough(x, 4, 2, 1);
        cacheDue(x, 9, 0, 4, 5);
        check.due("cached(-1)", x.cached(-1), NONE);
        check.due("cached(6)", x.cached(6), NONE);
        check.due("cached(7)", x.cached(7), NONE);
        check.due("cached(MIN)", x.cached(Integer.MIN_VALUE), NONE);
        check.due("cached(MAX)", x.cached(Integer.MAX_VALUE), NONE);
        x.crash();
        cacheDue(x);
    }

    private static void putKeepsThePlace() {
        check.at("PUTTING, a block that is there");
        BlockTargetSession x = new BlockTargetSession(1, 3);
        Drive.writeThrough(x, 1, 3, 10);
        Drive.writeThrough(x, 1, 1, 99);
        cacheDue(x, 1, 2, 3);
        check.due("present(1)", x.present(1), 99);
        check.due("disk(1)", x.disk(1), 0);
        Drive.writeThrough(x, 7, 1, 70);
        cacheDue(x, 2, 3, 7);
        check.due("disk(1), as changed", x.disk(1), 99);
    }

    private static void putSendsTheFirstBlockAway() {
        check.at("PUTTING, a full cache");
        BlockTargetSession x = new BlockTargetSession(1, 2);
        Drive.writeThrough(x, 1, 1, 10);
        Drive.writeThrough(x, 2, 1, 20);
        check.due("disk(1), the cache is just full", x.disk(1), 0);
        Drive.writeThrough(x, 3, 1, 30);
        cacheDue(x, 2, 3);
        check.due("disk(1)", x.disk(1), 10);
        check.due("disk(2)", x.disk(2), 0);
        check.due("disk(3)", x.disk(3), 0);
    }

    private static void longWriteInASmallRoom() {
        check.at("PUTTING, three blocks into a room of one");
        BlockTargetSession x = new BlockTargetSession(1, 1);
        Drive.writeThrough(x, 5, 3, 7);
        cacheDue(x, 7);
        check.due("disk(5)", x.disk(5), 7);
        check.due("disk(6)", x.disk(6), 8);
        check.due("disk(7)", x.disk(7), 0);
        check.due("present(7)", x.present(7), 9);
        Drive.writeThrough(x, 5, 3, 70);
        cacheDue(x, 7);
        check.due("disk(7), gone and come again", x.disk(7), 9);
        check.due("present(7)", x.present(7), 72);
    }

    private static void blockComesBackBehindTheOthers() {
        check.at("PUTTING, a block that was flushed");
        BlockTargetSession x = new BlockTargetSession(1, 3);
        Drive.writeThrough(x, 1, 3, 10);
        x.flush();
        Drive.writeThrough(x, 1, 1, 11);
        cacheDue(x, 2, 3, 1);
        check.due("disk(1)", x.disk(1), 10);
        check.due("disk(2)", x.disk(2), 0);
    }

    private static void syncEmptiesAFullCache() {
        check.at("SYNC of a full cache");
        BlockTargetSession x = new BlockTargetSession(1, 6);
        Drive.writeThrough(x, 10, 3, 10);
        Drive.writeThrough(x, 0, 3, 20);
        check.due("count(4)", x.count(4), 6);
        x.sync();
        Drive.finishAll(x);
        cacheDue(x);
        for (int i = 0; i < 3; i++) {
            check.due("disk", x.disk(10 + i), 10 + i);
            check.due("disk", x.disk(i), 20 + i);
        }
    }
}
