import java.util.ArrayList;
import java.util.LinkedHashMap;
import java.util.List;
import java.util.Map;

/** The document's words told with the Java library's lists and maps; a helper of ModelTest. */
final class Model {
    private static final int REFUSED = -1;
    private static final int FULL = -2;
    private static final int NONE = -3;
    private static final int CLOSED = -4;
    private static final int BROKEN = -5;
    private static final long ABSENT = -1000000000000L;

    private static final class Ask {
        int kind;
        int first;
        int count;
        int value;
        int state;
        Map<Integer, Integer> results = new LinkedHashMap<>();
    }

    private static final class Post {
        int request;
        int kind;
        int i;
        int value;
        int carried;
        boolean damaged;
    }

    private final int window;
    private final int room;
    private final int[] disk = new int[16];
    private final LinkedHashMap<Integer, Integer> cache = new LinkedHashMap<>();
    private final List<Ask> asks = new ArrayList<>();
    private final List<Post> up = new ArrayList<>();
    private final List<Post> down = new ArrayList<>();
    private boolean session = true;
    private int sends = 0;
    private int dones = 0;
    private int credit;
    private int sessions = 1;

    Model(int window, int room) {
        this.window = window < 1 ? 1 : window > 4 ? 4 : window;
        this.room = room < 1 ? 1 : room > 6 ? 6 : room;
        this.credit = this.window;
    }

    int write(int first, int count, int value) {
        return ask(0, first, count, value);
    }

    int read(int first, int count) {
        return ask(1, first, count, 0);
    }

    int sync() {
        return ask(2, 0, 1, 0);
    }

    private int ask(int kind, int first, int count, int value) {
        if (first < 0 || first > 15 || count < 1 || count > 3 || first + count > 16) {
            return REFUSED;
        }
        if (asks.size() == 120) {
            return FULL;
        }
        Ask a = new Ask();
        a.kind = kind;
        a.first = first;
        a.count = count;
        a.value = value;
        asks.add(a);
        return asks.size() - 1;
    }

    int send() {
        if (!session) {
            return CLOSED;
        }
        for (int n = 0; n < asks.size(); n++) {
            if (asks.get(n).state == 0) {
                if (!(sends < credit)) {
                    return FULL;
                }
                asks.get(n).state = 1;
                sends++;
                post(up, n, 0, 0, 0, 0);
                return n;
            }
        }
        return NONE;
    }

    private void post(List<Post> line, int request, int kind, int i, int value, int carried) {
        Post p = new Post();
        p.request = request;
        p.kind = kind;
        p.i = i;
        p.value = value;
        p.carried = carried;
        line.add(p);
    }

    private void postDown(int request, int kind, int i, int value) {
        post(down, request, kind, i, value, dones + window);
    }

    int deliver(boolean isUp) {
        if (!session) {
            return CLOSED;
        }
        List<Post> line = isUp ? up : down;
        if (line.isEmpty()) {
            return NONE;
        }
        Post p = line.remove(0);
        if (p.damaged) {
            breakIt();
            return BROKEN;
        }
        Ask a = asks.get(p.request);
        switch (p.kind) {
            case 0 -> command(p, a);
            case 1 -> data(p, a);
            default -> take(p, a);
        }
        return p.kind;
    }

    private void command(Post p, Ask a) {
        if (a.kind == 0 && a.count > 1) {
            postDown(p.request, 2, 1, 0);
            return;
        }
        if (a.kind == 0) {
            put(a.first, a.value);
        }
        if (a.kind == 1) {
            for (int i = 0; i < a.count; i++) {
                postDown(p.request, 3, i, (int) present(a.first + i));
            }
        }
        if (a.kind == 2) {
            cache.forEach((block, value) -> disk[block] = value);
            cache.clear();
        }
        dones++;
        postDown(p.request, 4, 0, 0);
    }

    private void data(Post p, Ask a) {
        if (p.i != a.count - 1) {
            postDown(p.request, 2, p.i + 1, 0);
            return;
        }
        for (int i = 0; i < a.count; i++) {
            put(a.first + i, a.value + i);
        }
        dones++;
        postDown(p.request, 4, 0, 0);
    }

    private void take(Post p, Ask a) {
        if (p.carried > credit) {
            credit = p.carried;
        }
        switch (p.kind) {
            case 2 -> post(up, p.request, 1, p.i, 0, 0);
            case 3 -> a.results.put(p.i, p.value);
            default -> a.state = 2;
        }
    }

    private void put(int block, int value) {
        // A LinkedHashMap keeps the place of a key that is put again.
        cache.put(block, value);
        if (cache.size() > room) {
            flush();
        }
    }

    private void breakIt() {
        up.clear();
        down.clear();
        session = false;
        for (Ask a : asks) {
            if (a.state == 1) {
                a.state = 0;
                a.results.clear();
            }
        }
    }

    int damage(boolean isUp, int n) {
        List<Post> line = isUp ? up : down;
        if (n < 0 || n >= line.size()) {
            return NONE;
        }
        line.get(n).damaged = true;
        return 0;
    }

    int drop() {
        if (!session) {
            return CLOSED;
        }
        breakIt();
        return 0;
    }

    int crash() {
        breakIt();
        cache.clear();
        return 0;
    }

    int login() {
        if (session) {
            return REFUSED;
        }
        session = true;
        sessions++;
        sends = 0;
        dones = 0;
        credit = window;
        return inState(0);
    }

    int flush() {
        if (cache.isEmpty()) {
            return NONE;
        }
        int block = cached(0);
        disk[block] = cache.remove(block);
        return block;
    }

    int state(int request) {
        return request < 0 || request >= asks.size() ? REFUSED : asks.get(request).state;
    }

    long result(int request, int i) {
        if (state(request) != 2 || asks.get(request).kind != 1) {
            return ABSENT;
        }
        Integer kept = asks.get(request).results.get(i);
        return kept == null ? ABSENT : kept;
    }

    long present(int block) {
        return cache.containsKey(block) ? cache.get(block) : disk(block);
    }

    long disk(int block) {
        return block < 0 || block > 15 ? ABSENT : disk[block];
    }

    int cached(int place) {
        return place < 0 || place >= cache.size() ? NONE : new ArrayList<>(cache.keySet()).get(place);
    }

    int message(boolean isUp, int n, int field) {
        List<Post> line = isUp ? up : down;
        if (n < 0 || n >= line.size() || field < 0 || field > 4) {
            return REFUSED;
        }
        Post p = line.get(n);
        return new int[] {p.request, p.kind, p.i, p.carried, p.damaged ? 1 : 0}[field];
    }

    int waiting(boolean isUp) {
        return (isUp ? up : down).size();
    }

    int count(int what) {
        return switch (what) {
            case 0 -> asks.size();
            case 1, 2, 3 -> inState(what - 1);
            case 4 -> cache.size();
            case 5 -> session ? sends : 0;
            case 6 -> session ? dones : 0;
            case 7 -> session ? credit : 0;
            case 8 -> sessions;
            default -> REFUSED;
        };
    }

    private int inState(int state) {
        return (int) asks.stream().filter(a -> a.state == state).count();
    }
}
