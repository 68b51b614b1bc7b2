/** The section 'Terms' of the document: the DISK, the CACHE, and PUTTING an int into a block. */
public final class TermsStoreTest extends SessionChecks {
    public static void main(String[] args) {
        blocksHoldAnIntEach();
        cacheIsEmptyAtFirst();
        cacheHoldsABlockOnce();
        cacheIsInTheOrderOfComing();
        presentIsTheCachesElseTheDisks();
        putKeepsThePlace();
        putFillsTheRoom();
        putBeyondTheRoomSendsTheFirstAway();
        putWritesTheIntAsItIsByThen();
        putOfAKnownBlockSendsNoneAway();
        putAfterAFlushHasRoom();
        putGoesRoundAllBlocks();
        longWriteIsPutInRisingOrder();
        longWriteMaySendItsOwnBlocksAway();
        writtenIntsWrap();
        end("TermsStoreTest");
    }

    private static void blocksHoldAnIntEach() {
        at("BLOCKS 0 .. 15 each hold an int on the DISK, 0 at first");
        BlockTargetSession x = new BlockTargetSession(1, 6);
        for (int block = 0; block < 16; block++) {
            diskDue(x, block, 0);
        }
        for (int block = 0; block < 16; block++) {
            Drive.writeThrough(x, block, 1, block % 2 == 0 ? MIN + block : MAX - block);
        }
        Drive.syncThrough(x);
        for (int block = 0; block < 16; block++) {
            diskDue(x, block, block % 2 == 0 ? MIN + block : MAX - block);
        }
    }

    private static void cacheIsEmptyAtFirst() {
        at("The CACHE: empty at first");
        BlockTargetSession x = Scenes.fresh();
        cacheDue(x);
        x.write(0, 1, 1);
        x.send();
        cacheDue(x);
        x.deliver(true);
        cacheDue(x, 0);
    }

    private static void cacheHoldsABlockOnce() {
        at("The CACHE: a block at most once");
        BlockTargetSession x = new BlockTargetSession(1, 6);
        Drive.writeThrough(x, 7, 1, 1);
        Drive.writeThrough(x, 7, 1, 2);
        cacheDue(x, 7);
        Drive.writeThrough(x, 6, 3, 3);
        cacheDue(x, 7, 6, 8);
        presentDue(x, 6, 3, 4, 5);
        Drive.writeThrough(x, 6, 3, 13);
        cacheDue(x, 7, 6, 8);
        presentDue(x, 6, 13, 14, 15);
    }

    private static void cacheIsInTheOrderOfComing() {
        at("The CACHE: in the order in which they came into it");
        BlockTargetSession x = new BlockTargetSession(1, 6);
        Drive.writeThrough(x, 9, 1, 1);
        Drive.writeThrough(x, 15, 1, 1);
        Drive.writeThrough(x, 0, 1, 1);
        Drive.writeThrough(x, 4, 2, 1);
        cacheDue(x, 9, 15, 0, 4, 5);
        x.flush();
        Drive.writeThrough(x, 9, 1, 2);
        cacheDue(x, 15, 0, 4, 5, 9);
    }

    private static void presentIsTheCachesElseTheDisks() {
        at("The PRESENT value of a block is that in the CACHE if it is there, else the DISK's");
        BlockTargetSession x = new BlockTargetSession(1, 6);
        due("present(3), in neither", x.present(3), 0);
        Drive.writeThrough(x, 3, 1, 33);
        due("present(3), in the cache", x.present(3), 33);
        x.flush();
        due("present(3), on the disk", x.present(3), 33);
        Drive.writeThrough(x, 3, 1, 0);
        due("present(3), a 0 in the cache", x.present(3), 0);
        due("disk(3)", x.disk(3), 33);
        x.crash();
        due("present(3), on the disk again", x.present(3), 33);
    }

    private static void putKeepsThePlace() {
        at("PUTTING: if the block is in the CACHE its int there is changed (its place stays)");
        for (int block = 1; block <= 3; block++) {
            BlockTargetSession x = new BlockTargetSession(1, 4);
            Drive.writeThrough(x, 1, 3, 10);
            Drive.writeThrough(x, block, 1, 99);
            cacheDue(x, 1, 2, 3);
            for (int other = 1; other <= 3; other++) {
                presentDue(x, other, other == block ? 99 : 9 + other);
            }
            diskDue(x, 1, 0, 0, 0);
        }
    }

    private static BlockTargetSession filled(int room) {
        BlockTargetSession x = new BlockTargetSession(2, room);
        for (int block = 0; block < room; block++) {
            Drive.writeThrough(x, block, 1, 50 + block);
        }
        return x;
    }

    private static void putFillsTheRoom() {
        at("PUTTING: if the CACHE has more than ROOM blocks, its first one goes; it has ROOM blocks");
        for (int room = 1; room <= 6; room++) {
            BlockTargetSession x = filled(room);
            due("count(4)", x.count(4), room);
            for (int block = 0; block < room; block++) {
                due("cached(" + block + ")", x.cached(block), block);
                diskDue(x, block, 0);
            }
        }
    }

    private static void putBeyondTheRoomSendsTheFirstAway() {
        at("PUTTING: it comes behind the others, and if the CACHE has more than ROOM blocks, its first one goes");
        for (int room = 1; room <= 6; room++) {
            BlockTargetSession x = filled(room);
            Drive.writeThrough(x, 12, 1, 77);
            due("count(4)", x.count(4), room);
            for (int place = 0; place < room - 1; place++) {
                due("cached(" + place + ")", x.cached(place), place + 1);
                diskDue(x, place + 1, 0);
            }
            due("cached(" + (room - 1) + ")", x.cached(room - 1), 12);
            diskDue(x, 0, 50);
            diskDue(x, 12, 0);
            presentDue(x, 12, 77);
        }
    }

    private static void putWritesTheIntAsItIsByThen() {
        at("PUTTING: its first one goes: its int is written to the DISK");
        BlockTargetSession x = filled(3);
        Drive.writeThrough(x, 0, 1, -1);
        Drive.writeThrough(x, 12, 1, 77);
        cacheDue(x, 1, 2, 12);
        diskDue(x, 0, -1, 0, 0);
        presentDue(x, 0, -1, 51, 52);
    }

    private static void putOfAKnownBlockSendsNoneAway() {
        at("PUTTING: if the block is in the CACHE its int there is changed, in a full CACHE");
        for (int room = 1; room <= 6; room++) {
            for (int block = 0; block < room; block++) {
                BlockTargetSession x = filled(room);
                Drive.writeThrough(x, block, 1, 99);
                due("count(4)", x.count(4), room);
                due("cached(0)", x.cached(0), 0);
                due("cached(" + block + ")", x.cached(block), block);
                diskDue(x, 0, 0);
                diskDue(x, block, 0);
                presentDue(x, block, 99);
            }
        }
    }

    private static void putAfterAFlushHasRoom() {
        at("PUTTING: if the CACHE has more than ROOM blocks; one was taken out before");
        for (int room = 1; room <= 6; room++) {
            BlockTargetSession x = filled(room);
            due("flush()", x.flush(), 0);
            Drive.writeThrough(x, 12, 1, 77);
            due("count(4)", x.count(4), room);
            due("cached(" + (room - 1) + ")", x.cached(room - 1), 12);
            diskDue(x, 1, 0);
            Drive.writeThrough(x, 13, 1, 78);
            due("count(4)", x.count(4), room);
            due("disk of the one that went", x.disk(room == 1 ? 12 : 1), room == 1 ? 77 : 51);
        }
    }

    private static void putGoesRoundAllBlocks() {
        at("PUTTING: its first one goes, again and again");
        for (int room = 1; room <= 6; room++) {
            BlockTargetSession x = new BlockTargetSession(1, room);
            for (int k = 0; k < 24; k++) {
                Drive.writeThrough(x, k % 16, 1, k);
                due("cached(0)", x.cached(0), Math.max(0, k - room + 1) % 16);
                due("the newest", x.cached(Math.min(k, room - 1)), k % 16);
            }
            for (int block = 0; block < 16; block++) {
                boolean twice = block < 8;
                presentDue(x, block, twice ? block + 16 : block);
                diskDue(x, block, twice && block + 16 <= 23 - room ? block + 16 : block);
            }
        }
    }

    private static void longWriteIsPutInRisingOrder() {
        at("DATA i: all its ints are PUT, in rising order of blocks");
        BlockTargetSession x = new BlockTargetSession(1, 1);
        Drive.writeThrough(x, 5, 3, 7);
        cacheDue(x, 7);
        diskDue(x, 5, 7, 8, 0);
        presentDue(x, 5, 7, 8, 9);
        BlockTargetSession y = new BlockTargetSession(1, 2);
        Drive.writeThrough(y, 5, 3, 7);
        cacheDue(y, 6, 7);
        diskDue(y, 5, 7, 0, 0);
        BlockTargetSession z = new BlockTargetSession(1, 3);
        Drive.writeThrough(z, 5, 3, 7);
        cacheDue(z, 5, 6, 7);
        diskDue(z, 5, 0, 0, 0);
    }

    private static void longWriteMaySendItsOwnBlocksAway() {
        at("DATA i: all its ints are PUT, each one fully before the next");
        BlockTargetSession x = new BlockTargetSession(1, 2);
        Drive.writeThrough(x, 2, 2, 20);
        Drive.writeThrough(x, 1, 3, 100);
        cacheDue(x, 2, 3);
        diskDue(x, 1, 100, 20, 21);
        presentDue(x, 1, 100, 101, 102);
    }

    private static void writtenIntsWrap() {
        at("it puts v + i into block first + i, wrapping");
        int[] value = {MAX - 2, MAX - 1, MAX, MIN, -1};
        int[][] put = {{MAX - 2, MAX - 1, MAX}, {MAX - 1, MAX, MIN}, {MAX, MIN, MIN + 1},
            {MIN, MIN + 1, MIN + 2}, {-1, 0, 1}};
        for (int k = 0; k < value.length; k++) {
            BlockTargetSession x = new BlockTargetSession(1, 6);
            Drive.writeThrough(x, 13, 3, value[k]);
            presentDue(x, 12, 0, put[k][0], put[k][1], put[k][2]);
            Drive.readThrough(x, 13, 3);
            resultsDue(x, 1, put[k][0], put[k][1], put[k][2]);
            Drive.syncThrough(x);
            diskDue(x, 12, 0, put[k][0], put[k][1], put[k][2]);
        }
    }
}
