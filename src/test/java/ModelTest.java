import java.util.HashSet;
import java.util.Map;
import java.util.Set;
import java.util.TreeMap;

/**
 * Long runs of calls, each answered by PageVault and by a model that says the document's words with maps
 * and sets: frames are never handed out there, but counted anew from what is there.
 */
public final class ModelTest {
    private static final int LIMIT = 1073741824;
    private static final int RUNS = 4000;
    // A step makes up to six calls, the start of a run 12 and its end 176: an object is promised for 512.
    private static final int STEPS = 54;
    private static final int[] EDGES = {0, 0, 0, 4096, 8192, 12288, 4096 * 1023, 4194304, 4194304 * 2, LIMIT - 4096,
        LIMIT - 4194304, LIMIT, -4096, Integer.MIN_VALUE, Integer.MAX_VALUE - 4095};
    private static final int[] ODD = {-1, 3, 5, 16, 17, 512, 513, LIMIT, -LIMIT, Integer.MAX_VALUE, Integer.MIN_VALUE};

    private static int wrong = 0;
    private static long seed;

    private static final class Bytes {
        final int[] values = new int[4096];
        int owners = 1;
    }

    private static final class Page {
        int flags;
        Bytes bytes;

        Page(int flags, Bytes bytes) {
            this.flags = flags;
            this.bytes = bytes;
        }
    }

    private static final class Room {
        int size;
        final TreeMap<Integer, Page> pages = new TreeMap<>();
        final Set<Integer> regions = new HashSet<>();

        void place(int number, Page page) {
            pages.put(number, page);
            regions.add(number / 1024);
        }
    }

    private static final class Model {
        final int frames;
        final Room[] rooms = new Room[16];
        final int[] buffer = new int[512];
        int trap;

        Model(int frames) {
            this.frames = frames < 8 ? 8 : frames > 32 ? 32 : frames;
        }

        int free() {
            Set<Bytes> held = new HashSet<>();
            int taken = 0;
            for (Room room : rooms) {
                if (room != null) {
                    taken += 1 + room.regions.size();
                    for (Page page : room.pages.values()) {
                        held.add(page.bytes);
                    }
                }
            }
            return frames - taken - held.size();
        }

        Room room(int space) {
            return space >= 0 && space <= 15 ? rooms[space] : null;
        }

        int unused() {
            for (int k = 0; k < 16; k++) {
                if (rooms[k] == null) {
                    return k;
                }
            }
            return -1;
        }

        int make() {
            int number = unused();
            if (number < 0 || free() == 0) {
                return -1;
            }
            rooms[number] = new Room();
            return number;
        }

        boolean drop(int space) {
            Room room = room(space);
            if (room == null) {
                return false;
            }
            cut(room, 0);
            rooms[space] = null;
            return true;
        }

        void cut(Room room, int size) {
            for (int number : new HashSet<>(room.pages.keySet())) {
                if (number * 4096L >= size) {
                    room.pages.remove(number).bytes.owners--;
                }
            }
        }

        int fork(int space) {
            Room room = room(space);
            int number = unused();
            if (room == null || number < 0) {
                return -1;
            }
            Set<Integer> live = new HashSet<>();
            for (int page : room.pages.keySet()) {
                live.add(page / 1024);
            }
            if (free() < 1 + live.size()) {
                return -1;
            }
            Room copy = new Room();
            copy.size = room.size;
            for (Map.Entry<Integer, Page> entry : room.pages.entrySet()) {
                Page page = entry.getValue();
                page.bytes.owners++;
                copy.place(entry.getKey(), new Page(page.flags, page.bytes));
            }
            rooms[number] = copy;
            return number;
        }

        int needed(Room room, int number) {
            return room.regions.contains(number / 1024) ? 1 : 2;
        }

        int map(int space, int at, int flags) {
            Room room = room(space);
            if (room == null || at < 0 || at >= LIMIT || at % 4096 != 0 || flags < 0 || flags > 15
                || room.pages.containsKey(at / 4096)) {
                return -1;
            }
            if (free() < needed(room, at / 4096)) {
                return -2;
            }
            room.place(at / 4096, new Page(flags, new Bytes()));
            if (room.size < at + 4096) {
                room.size = at + 4096;
            }
            return 0;
        }

        boolean protect(int space, int at, int flags) {
            Page page = at % 4096 == 0 ? page(space, at) : null;
            if (page == null || flags < 0 || flags > 15) {
                return false;
            }
            page.flags = flags;
            return true;
        }

        int grow(int space, int n) {
            Room room = room(space);
            if (room == null || room.size + (long) n < 0 || room.size + (long) n > LIMIT) {
                return -1;
            }
            int before = room.size;
            room.size += n;
            cut(room, room.size);
            return before;
        }

        int size(int space) {
            Room room = room(space);
            return room == null ? -1 : room.size;
        }

        Page page(int space, int at) {
            Room room = room(space);
            return room == null || at < 0 || at >= LIMIT ? null : room.pages.get(at / 4096);
        }

        int flags(int space, int at) {
            Page page = page(space, at);
            return page == null ? -1 : page.flags;
        }

        int owners(int space, int at) {
            Page page = page(space, at);
            return page == null ? 0 : page.bytes.owners;
        }

        int touch(int space, int at, int use) {
            Room room = room(space);
            if (room == null || at < 0 || at >= LIMIT) {
                return 1;
            }
            Page page = room.pages.get(at / 4096);
            if (page == null) {
                if (at >= room.size || use == 4) {
                    return 1;
                }
                if (free() < needed(room, at / 4096)) {
                    return 3;
                }
                room.place(at / 4096, new Page(11, new Bytes()));
                return 0;
            }
            if ((page.flags & 8) == 0 || (page.flags & use) == 0) {
                return 1;
            }
            if (use == 2 && page.bytes.owners > 1) {
                if (free() == 0) {
                    return 3;
                }
                Bytes own = new Bytes();
                System.arraycopy(page.bytes.values, 0, own.values, 0, 4096);
                page.bytes.owners--;
                page.bytes = own;
            }
            return 0;
        }

        int touchNumber(int space, int at, int n, int use) {
            boolean straight = (n == 1 || n == 2 || n == 4) && at % n == 0;
            return straight ? touch(space, at, use) : 2;
        }

        int load(int space, int at, int n, int use) {
            trap = touchNumber(space, at, n, use);
            int number = 0;
            for (int k = n - 1; trap == 0 && k >= 0; k--) {
                number = number * 256 + page(space, at).bytes.values[at % 4096 + k];
            }
            return number;
        }

        boolean store(int space, int at, int n, int v) {
            trap = touchNumber(space, at, n, 2);
            for (int k = 0; trap == 0 && k < n; k++) {
                page(space, at).bytes.values[at % 4096 + k] = v >> 8 * k & 255;
            }
            return trap == 0;
        }

        int copy(int space, int at, int n, int use) {
            trap = 0;
            if (n < 0 || n > 512) {
                return -1;
            }
            for (int k = 0; k < n; k++) {
                trap = touch(space, at + k, use);
                if (trap != 0) {
                    return k;
                }
                int[] values = page(space, at + k).bytes.values;
                if (use == 2) {
                    values[(at + k) % 4096] = buffer[k];
                } else {
                    buffer[k] = values[(at + k) % 4096];
                }
            }
            return n;
        }

        int text(int space, int at, int n) {
            trap = 0;
            for (int k = 0; n <= 512 && k < n; k++) {
                trap = touch(space, at + k, 1);
                if (trap != 0) {
                    return -1;
                }
                buffer[k] = page(space, at + k).bytes.values[(at + k) % 4096];
                if (buffer[k] == 0) {
                    return k;
                }
            }
            return -1;
        }

        boolean put(int k, int b) {
            if (k < 0 || k > 511 || b < 0 || b > 255) {
                return false;
            }
            buffer[k] = b;
            return true;
        }

        int at(int k) {
            return k < 0 || k > 511 ? -1 : buffer[k];
        }
    }

    // A small generator of our own, so that every run is the same on every machine.
    private static int pick(int bound) {
        seed = seed * 6364136223846793005L + 1442695040888963407L;
        return (int) ((seed >>> 33) % bound);
    }

    private static int odd() {
        return ODD[pick(ODD.length)];
    }

    private static int anySpace(int used) {
        return pick(40) == 0 ? odd() : pick(used);
    }

    private static int anyPage() {
        return pick(4) == 0 ? EDGES[pick(EDGES.length)] : pick(4) * 4096;
    }

    private static int anyAddress() {
        int within = pick(3) == 0 ? pick(4096) : pick(2) == 0 ? pick(5) * 4 : 4095 - pick(8);
        return anyPage() + within;
    }

    private static int anyWidth() {
        return pick(30) == 0 ? pick(12) - 2 : 1 << pick(3);
    }

    private static int anyFlags() {
        return pick(30) == 0 ? odd() : pick(2) == 0 ? 11 + 4 * pick(2) : pick(16);
    }

    private static int anyLength() {
        return pick(20) == 0 ? odd() : pick(4) == 0 ? pick(515) : pick(12);
    }

    private static int anyGrowth() {
        int kind = pick(12);
        if (kind == 0) {
            return odd();
        }
        if (kind == 1) {
            return (pick(5) - 2) * 4194304;
        }
        return kind < 5 ? pick(9) - 4 : kind < 10 ? pick(9000) : -pick(9000);
    }

    private static void due(String call, long got, long want) {
        if (got != want) {
            wrong++;
            System.out.println(call + " answered " + got + ", due is " + want);
        }
    }

    private static long one(boolean answer) {
        return answer ? 1 : 0;
    }

    private static void spaceCall(String run, PageVault x, Model m, int s) {
        int at = anyPage() + (pick(30) == 0 ? pick(4096) : 0);
        int flags = anyFlags();
        int n = anyGrowth();
        switch (pick(8)) {
            case 0 -> due(run + "make()", x.make(), m.make());
            case 1 -> {
                if (pick(3) == 0) {
                    due(run + "drop(" + s + ")", one(x.drop(s)), one(m.drop(s)));
                }
            }
            case 2 -> due(run + "fork(" + s + ")", x.fork(s), m.fork(s));
            case 3, 4 -> due(run + "map(" + s + ", " + at + ", " + flags + ")", x.map(s, at, flags), m.map(s, at, flags));
            case 5 -> due(run + "protect(" + s + ", " + at + ", " + flags + ")",
                one(x.protect(s, at, flags)), one(m.protect(s, at, flags)));
            default -> due(run + "grow(" + s + ", " + n + ")", x.grow(s, n), m.grow(s, n));
        }
    }

    private static void touchCall(String run, PageVault x, Model m, int s) {
        int at = anyAddress();
        int n = anyWidth();
        int v = pick(3) == 0 ? pick(256) : (pick(65536) << 16) + pick(65536);
        int straight = pick(8) == 0 ? at : at & -4;
        String tail = s + ", " + straight + ", " + n + ")";
        switch (pick(7)) {
            case 0, 1 -> due(run + "load(" + tail, x.load(s, straight, n), m.load(s, straight, n, 1));
            case 2 -> due(run + "fetch(" + tail, x.fetch(s, straight), m.load(s, straight, 4, 4));
            case 3, 4, 5 -> due(run + "store(" + tail, one(x.store(s, straight, n, v)), one(m.store(s, straight, n, v)));
            default -> copyCall(run, x, m, s);
        }
        due(run + "trap()", x.trap(), m.trap);
    }

    private static void copyCall(String run, PageVault x, Model m, int s) {
        int at = anyAddress();
        int n = anyLength();
        String tail = s + ", " + at + ", " + n + ")";
        switch (pick(3)) {
            case 0 -> due(run + "out(" + tail, x.out(s, at, n), m.copy(s, at, n, 2));
            case 1 -> due(run + "in(" + tail, x.in(s, at, n), m.copy(s, at, n, 1));
            default -> due(run + "text(" + tail, x.text(s, at, n), m.text(s, at, n));
        }
    }

    private static void bufferCall(String run, PageVault x, Model m) {
        int k = pick(10) == 0 ? odd() : pick(12);
        int b = pick(20) == 0 ? odd() : pick(256);
        due(run + "put(" + k + ", " + b + ")", one(x.put(k, b)), one(m.put(k, b)));
        int read = pick(3) == 0 ? pick(516) - 2 : pick(12);
        due(run + "at(" + read + ")", x.at(read), m.at(read));
    }

    private static void look(String run, PageVault x, Model m, int s) {
        int at = anyAddress();
        due(run + "free()", x.free(), m.free());
        due(run + "size(" + s + ")", x.size(s), m.size(s));
        due(run + "flags(" + s + ", " + at + ")", x.flags(s, at), m.flags(s, at));
        due(run + "owners(" + s + ", " + at + ")", x.owners(s, at), m.owners(s, at));
    }

    private static void run(int number) {
        seed = number * 7919L + 17;
        pick(2);
        int frames = pick(20) == 0 ? odd() : 7 + pick(27);
        int used = 1 + pick(16);
        PageVault x = new PageVault(frames);
        Model m = new Model(frames);
        // A byte that is lost shows only where it was not 0.
        for (int k = 0; k < 12; k++) {
            due("put", one(x.put(k, 200 + k)), one(m.put(k, 200 + k)));
        }
        for (int step = 0; step < STEPS && wrong < 20; step++) {
            String run = "run " + number + ", step " + step + ": ";
            int s = anySpace(used);
            int kind = pick(step < 8 ? 4 : 9);
            if (kind < 4) {
                spaceCall(run, x, m, s);
            } else if (kind < 8) {
                touchCall(run, x, m, s);
            } else {
                bufferCall(run, x, m);
            }
            look(run, x, m, s);
        }
        lookAtAll(number, x, m);
    }

    // A fault that a run left in a space that it did not look at again shows here.
    private static void lookAtAll(int number, PageVault x, Model m) {
        String run = "run " + number + ", end: ";
        for (int s = 0; s < 16; s++) {
            due(run + "size(" + s + ")", x.size(s), m.size(s));
            if (m.rooms[s] != null) {
                int at = anyPage();
                due(run + "flags(" + s + ", " + at + ")", x.flags(s, at), m.flags(s, at));
                due(run + "in(" + s + ", " + at + ", 512)", x.in(s, at, 512), m.copy(s, at, 512, 1));
                for (int k = 0; k < 32; k += 4) {
                    int near = k + pick(4);
                    due(run + "at(" + near + ")", x.at(near), m.at(near));
                }
            }
        }
    }

    public static void main(String[] args) {
        for (int number = 0; number < RUNS && wrong < 20; number++) {
            run(number);
        }
        System.out.println(wrong == 0 ? "the model agrees" : wrong + " answers are not as due");
        if (wrong != 0) {
            System.exit(1);
        }
    }
}
