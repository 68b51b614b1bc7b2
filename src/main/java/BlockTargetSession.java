import java.util.Arrays;

/**
 * An initiator and a target of a block store, joined by two lines of messages under a window of
 * commands. The words in capitals in the comments are those of the document's section 'Terms'.
 */
public final class BlockTargetSession {
    public static final int DONE = 0;
    public static final int REFUSED = -1;
    public static final int FULL = -2;
    public static final int NONE = -3;
    public static final int CLOSED = -4;
    public static final int BROKEN = -5;
    public static final long ABSENT = -1000000000000L;

    private static final int BLOCKS = 16;
    private static final int MAX_BLOCKS_OF_REQUEST = 3;
    private static final int MAX_REQUESTS = 120;
    private static final int MAX_WINDOW = 4;
    private static final int MAX_ROOM = 6;

    private static final int WRITE = 0;
    private static final int READ = 1;
    private static final int SYNC = 2;

    private static final int OPEN = 0;
    private static final int SENT = 1;
    private static final int GOOD = 2;

    private static final int COMMAND = 0;
    private static final int DATA = 1;
    private static final int ASK = 2;
    private static final int PIECE = 3;
    private static final int STATUS = 4;

    // The window bounds both lines: at most WINDOW commands are sent whose STATUS is not taken yet,
    // each with one message UP at most, and with its PIECES and a STATUS DOWN at most.
    private static final int UP_SLOTS = MAX_WINDOW;
    private static final int DOWN_SLOTS = MAX_WINDOW * (MAX_BLOCKS_OF_REQUEST + 1);

    private final int window;
    private final Store store;
    private final Request[] requests = new Request[MAX_REQUESTS];
    private int requestCount = 0;
    private final Line upLine = new Line(UP_SLOTS);
    private final Line downLine = new Line(DOWN_SLOTS);

    private boolean inSession = false;
    private int sessions = 0;
    private int sends = 0;
    private int dones = 0;
    private int credit = 0;

    public BlockTargetSession(int window, int room) {
        this.window = clamp(window, 1, MAX_WINDOW);
        this.store = new Store(clamp(room, 1, MAX_ROOM));
        beginSession();
    }

    public int write(int first, int count, int value) {
        if (!isStretch(first, count)) {
            return REFUSED;
        }
        return addRequest(WRITE, first, count, value);
    }

    public int read(int first, int count) {
        if (!isStretch(first, count)) {
            return REFUSED;
        }
        return addRequest(READ, first, count, 0);
    }

    public int sync() {
        return addRequest(SYNC, 0, 0, 0);
    }

    public int send() {
        if (!inSession) {
            return CLOSED;
        }
        int number = firstOpenRequest();
        if (number == NONE) {
            return NONE;
        }
        if (sends >= credit) {
            return FULL;
        }
        requests[number].state = SENT;
        sends++;
        sendUp(number, COMMAND, 0);
        return number;
    }

    public int deliver(boolean up) {
        if (!inSession) {
            return CLOSED;
        }
        Message oldest = lineOf(up).takeOldest();
        if (oldest == null) {
            return NONE;
        }
        if (oldest.damaged) {
            breakSession();
            return BROKEN;
        }
        if (up) {
            workAtTarget(oldest);
        } else {
            takeAtInitiator(oldest);
        }
        return oldest.kind;
    }

    public int damage(boolean up, int n) {
        Message hit = lineOf(up).messageAt(n);
        if (hit == null) {
            return NONE;
        }
        hit.damaged = true;
        return DONE;
    }

    public int drop() {
        if (!inSession) {
            return CLOSED;
        }
        breakSession();
        return DONE;
    }

    public int crash() {
        if (inSession) {
            breakSession();
        }
        store.loseCache();
        return DONE;
    }

    public int login() {
        if (inSession) {
            return REFUSED;
        }
        beginSession();
        return requestsIn(OPEN);
    }

    public int flush() {
        return store.writeBackFirst();
    }

    public int state(int request) {
        Request asked = requestAt(request);
        return asked == null ? REFUSED : asked.state;
    }

    public long result(int request, int i) {
        Request asked = requestAt(request);
        if (asked == null || asked.kind != READ || asked.state != GOOD) {
            return ABSENT;
        }
        if (i < 0 || i >= asked.count) {
            return ABSENT;
        }
        return asked.results[i];
    }

    public long present(int block) {
        return isBlock(block) ? store.presentInt(block) : ABSENT;
    }

    public long disk(int block) {
        return isBlock(block) ? store.diskInts[block] : ABSENT;
    }

    public int cached(int place) {
        return store.blockAt(place);
    }

    public int message(boolean up, int n, int field) {
        Message asked = lineOf(up).messageAt(n);
        if (asked == null) {
            return REFUSED;
        }
        switch (field) {
            case 0:
                return asked.request;
            case 1:
                return asked.kind;
            case 2:
                return asked.number;
            case 3:
                return asked.carried;
            case 4:
                return asked.damaged ? 1 : 0;
            default:
                return REFUSED;
        }
    }

    public int waiting(boolean up) {
        return lineOf(up).size;
    }

    public int count(int what) {
        switch (what) {
            case 0:
                return requestCount;
            case 1:
                return requestsIn(OPEN);
            case 2:
                return requestsIn(SENT);
            case 3:
                return requestsIn(GOOD);
            case 4:
                return store.cacheSize;
            case 5:
                return sends;
            case 6:
                return dones;
            case 7:
                return credit;
            case 8:
                return sessions;
            default:
                return REFUSED;
        }
    }

    private static int clamp(int n, int least, int most) {
        return Math.max(least, Math.min(most, n));
    }

    private static boolean isBlock(int block) {
        return block >= 0 && block < BLOCKS;
    }

    private static boolean isStretch(int first, int count) {
        return isBlock(first)
                && count >= 1 && count <= MAX_BLOCKS_OF_REQUEST
                && first + count <= BLOCKS;
    }

    // ---- requests

    private int addRequest(int kind, int first, int count, int value) {
        if (requestCount >= MAX_REQUESTS) {
            return FULL;
        }
        int number = requestCount;
        requests[number] = new Request(kind, first, count, value);
        requestCount++;
        return number;
    }

    private Request requestAt(int number) {
        return number >= 0 && number < requestCount ? requests[number] : null;
    }

    private int firstOpenRequest() {
        for (int number = 0; number < requestCount; number++) {
            if (requests[number].state == OPEN) {
                return number;
            }
        }
        return NONE;
    }

    private int requestsIn(int state) {
        int found = 0;
        for (int number = 0; number < requestCount; number++) {
            if (requests[number].state == state) {
                found++;
            }
        }
        return found;
    }

    // ---- the session

    private void beginSession() {
        inSession = true;
        sessions++;
        sends = 0;
        dones = 0;
        credit = window;
    }

    private void breakSession() {
        upLine.clear();
        downLine.clear();
        inSession = false;
        // count answers 0 for these three while there is no session.
        sends = 0;
        dones = 0;
        credit = 0;
        for (int number = 0; number < requestCount; number++) {
            if (requests[number].state == SENT) {
                requests[number].reopen();
            }
        }
    }

    private Line lineOf(boolean up) {
        return up ? upLine : downLine;
    }

    private void sendUp(int request, int kind, int number) {
        Message sent = upLine.putNewest();
        if (sent != null) {
            sent.fill(request, kind, number, 0, 0);
        }
    }

    private void sendDown(int request, int kind, int number, int value) {
        Message sent = downLine.putNewest();
        if (sent != null) {
            sent.fill(request, kind, number, value, dones + window);
        }
    }

    // ---- the target

    private void workAtTarget(Message taken) {
        Request worked = requestAt(taken.request);
        if (worked == null) {
            return;
        }
        if (worked.kind == WRITE) {
            // The COMMAND of a WRITE brings its int 0 as a DATA i brings its int i.
            workPartOfWrite(taken.request, worked, taken.kind == DATA ? taken.number : 0);
        } else if (worked.kind == READ) {
            workRead(taken.request, worked);
        } else {
            workSync(taken.request);
        }
    }

    private void workPartOfWrite(int number, Request worked, int part) {
        if (part < worked.count - 1) {
            sendDown(number, ASK, part + 1, 0);
            return;
        }
        for (int i = 0; i < worked.count; i++) {
            store.put(worked.first + i, worked.value + i);
        }
        finish(number);
    }

    private void workRead(int number, Request worked) {
        for (int i = 0; i < worked.count; i++) {
            sendDown(number, PIECE, i, store.presentInt(worked.first + i));
        }
        finish(number);
    }

    private void workSync(int number) {
        store.writeBackAll();
        finish(number);
    }

    private void finish(int number) {
        // First, since a STATUS carries the DONES with its own command counted.
        dones++;
        sendDown(number, STATUS, 0, 0);
    }

    // ---- the initiator

    private void takeAtInitiator(Message taken) {
        credit = Math.max(credit, taken.carried);
        Request served = requestAt(taken.request);
        if (served == null) {
            return;
        }
        if (taken.kind == ASK) {
            sendUp(taken.request, DATA, taken.number);
        } else if (taken.kind == PIECE) {
            served.keepResult(taken.number, taken.value);
        } else {
            served.state = GOOD;
        }
    }

    /** A WRITE, READ or SYNC; a SYNC has a count of 0. */
    private static final class Request {
        final int kind;
        final int first;
        final int count;
        final int value;
        final int[] results;
        int state = OPEN;

        Request(int kind, int first, int count, int value) {
            this.kind = kind;
            this.first = first;
            this.count = count;
            this.value = value;
            this.results = new int[kind == READ ? count : 0];
        }

        void keepResult(int i, int piece) {
            if (i >= 0 && i < results.length) {
                results[i] = piece;
            }
        }

        void reopen() {
            state = OPEN;
            Arrays.fill(results, 0);
        }
    }

    /** A message on a line; its object is used again for later messages of the same line. */
    private static final class Message {
        int request = 0;
        int kind = COMMAND;
        int number = 0;
        int value = 0;
        int carried = 0;
        boolean damaged = false;

        void fill(int request, int kind, int number, int value, int carried) {
            this.request = request;
            this.kind = kind;
            this.number = number;
            this.value = value;
            this.carried = carried;
            this.damaged = false;
        }
    }

    /** A list of messages, the oldest first; the slots behind the last one hold spare objects. */
    private static final class Line {
        final Message[] slots;
        int size = 0;

        Line(int capacity) {
            slots = new Message[capacity];
            for (int n = 0; n < capacity; n++) {
                slots[n] = new Message();
            }
        }

        Message messageAt(int n) {
            return n >= 0 && n < size ? slots[n] : null;
        }

        /** The object of a new message behind the others, to be filled. */
        Message putNewest() {
            if (size >= slots.length) {
                return null;
            }
            size++;
            return slots[size - 1];
        }

        /** What is taken can be read until the next message is put on this line. */
        Message takeOldest() {
            if (size == 0) {
                return null;
            }
            Message oldest = slots[0];
            size--;
            for (int n = 0; n < size; n++) {
                slots[n] = slots[n + 1];
            }
            slots[size] = oldest;
            return oldest;
        }

        void clear() {
            size = 0;
        }
    }

    /** The target's DISK and its CACHE. */
    private static final class Store {
        final int room;
        final int[] diskInts = new int[BLOCKS];
        final int[] cacheBlocks;
        final int[] cacheInts;
        int cacheSize = 0;

        Store(int room) {
            this.room = room;
            // One place more, since a block comes into the CACHE before the first one goes.
            this.cacheBlocks = new int[room + 1];
            this.cacheInts = new int[room + 1];
        }

        int presentInt(int block) {
            int place = placeOf(block);
            return place == NONE ? diskInts[block] : cacheInts[place];
        }

        int blockAt(int place) {
            return place >= 0 && place < cacheSize ? cacheBlocks[place] : NONE;
        }

        void put(int block, int value) {
            int place = placeOf(block);
            if (place != NONE) {
                cacheInts[place] = value;
                return;
            }
            cacheBlocks[cacheSize] = block;
            cacheInts[cacheSize] = value;
            cacheSize++;
            if (cacheSize > room) {
                writeBackFirst();
            }
        }

        /** Answers the block that went, or NONE. */
        int writeBackFirst() {
            if (cacheSize == 0) {
                return NONE;
            }
            int block = cacheBlocks[0];
            diskInts[block] = cacheInts[0];
            cacheSize--;
            for (int place = 0; place < cacheSize; place++) {
                cacheBlocks[place] = cacheBlocks[place + 1];
                cacheInts[place] = cacheInts[place + 1];
            }
            return block;
        }

        void writeBackAll() {
            for (int left = cacheSize; left > 0; left--) {
                writeBackFirst();
            }
        }

        void loseCache() {
            cacheSize = 0;
        }

        private int placeOf(int block) {
            for (int place = 0; place < cacheSize; place++) {
                if (cacheBlocks[place] == block) {
                    return place;
                }
            }
            return NONE;
        }
    }
}
