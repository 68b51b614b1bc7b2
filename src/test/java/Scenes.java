/** States that tests begin with, each a new object; a helper of the tests. */
final class Scenes {
    private Scenes() {
    }

    static BlockTargetSession fresh() {
        return new BlockTargetSession(2, 3);
    }

    /**
     * Requests 0, 1 (WRITES) and 2 (a READ) are GOOD; 3 (a READ), 4 (a WRITE) and 5 (a SYNC) are
     * SENT; 6 (a WRITE) is OPEN. UP is the COMMAND of 5; DOWN are PIECE 1, PIECE 2 and the STATUS
     * of 3 and the ASK 1 of 4. PIECE 0 of 3 is taken. The CACHE is 0, 1; SENDS is at CREDIT.
     */
    static BlockTargetSession midst() {
        BlockTargetSession x = new BlockTargetSession(3, 3);
        Drive.writeThrough(x, 0, 1, 40);
        x.flush();
        Drive.writeThrough(x, 0, 2, 50);
        Drive.readThrough(x, 0, 2);
        x.read(0, 3);
        x.write(4, 3, 60);
        x.sync();
        x.write(8, 1, 90);
        Drive.send(x, 3);
        Drive.deliver(x, true, 2);
        x.deliver(false);
        return x;
    }

    /** As midst, and then the session is broken. */
    static BlockTargetSession closed() {
        BlockTargetSession x = midst();
        x.drop();
        return x;
    }

    /** Requests of all three kinds in turn, all OPEN. */
    static BlockTargetSession requests(int many) {
        BlockTargetSession x = new BlockTargetSession(4, 2);
        for (int i = 0; i < many; i++) {
            switch (i % 3) {
                case 0 -> x.write(i % 14, 3, i);
                case 1 -> x.read(i % 14, 2);
                default -> x.sync();
            }
        }
        return x;
    }

    /** There are 120 requests. */
    static BlockTargetSession crowded() {
        return requests(120);
    }

    /** A READ of three is worked: DOWN are three PIECES and a STATUS, UP is a COMMAND of a SYNC. */
    static BlockTargetSession readWorked() {
        BlockTargetSession x = new BlockTargetSession(4, 3);
        Drive.writeThrough(x, 0, 3, 70);
        x.read(0, 3);
        x.sync();
        Drive.send(x, 2);
        x.deliver(true);
        return x;
    }
}
