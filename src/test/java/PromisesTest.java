/** What each promise of the document asks: ordinary inputs, the edges that it names, wrong inputs. */
public final class PromisesTest {
    private static final int LIMIT = 1073741824;
    private static final int LAST_PAGE = LIMIT - 4096;
    private static final int REGION = 4194304;
    private static final int[] WRONG_SPACES = {-1, 1, 15, 16, 17, Integer.MAX_VALUE, Integer.MIN_VALUE};
    private static final int[] WRONG_ADDRESSES = {-1, -4, -4096, LIMIT, LIMIT + 4096, Integer.MAX_VALUE, Integer.MIN_VALUE};
    private static final int[] WRONG_FLAGS = {-1, 16, 27, Integer.MAX_VALUE, Integer.MIN_VALUE};

    private static int wrong = 0;
    private static String section = "";

    private static void due(String call, int got, int want) {
        if (got != want) {
            wrong++;
            System.out.println(section + ": " + call + " answered " + got + ", due is " + want);
        }
    }

    private static void due(String call, boolean got, boolean want) {
        due(call, got ? 1 : 0, want ? 1 : 0);
    }

    public static void main(String[] args) {
        newObject();
        make();
        drop();
        dropSharedPages();
        fork();
        forkRefused();
        map();
        mapRefused();
        mapWithoutFrames();
        protect();
        grow();
        growRemovesPages();
        growRefused();
        size();
        load();
        loadMakesPages();
        loadFromEveryFrame();
        loadTraps();
        fetch();
        store();
        storeParts();
        storeTraps();
        trap();
        out();
        outKeepsNeighbours();
        outTraps();
        in();
        inTraps();
        text();
        textTraps();
        put();
        at();
        free();
        flags();
        owners();
        System.out.println(wrong == 0 ? "all promises hold" : wrong + " answers are not as due");
        if (wrong != 0) {
            System.exit(1);
        }
    }

    private static PageVault withSpace(int frames) {
        PageVault x = new PageVault(frames);
        due("make()", x.make(), 0);
        return x;
    }

    private static PageVault withSize(int frames, int size) {
        PageVault x = withSpace(frames);
        due("grow(0, size)", x.grow(0, size), 0);
        return x;
    }

    private static void fill(PageVault x, int from, int count, int first) {
        for (int k = 0; k < count; k++) {
            due("put", x.put(from + k, first + k), true);
        }
    }

    private static void newObject() {
        section = "1, a new object";
        int[][] framesAndFree = {{8, 8}, {9, 9}, {20, 20}, {31, 31}, {32, 32}, {7, 8}, {0, 8}, {-1, 8}, {33, 32},
            {Integer.MIN_VALUE, 8}, {Integer.MAX_VALUE, 32}};
        for (int[] pair : framesAndFree) {
            PageVault x = new PageVault(pair[0]);
            due("free() of " + pair[0], x.free(), pair[1]);
            due("trap()", x.trap(), 0);
            for (int k = 0; k < 16; k++) {
                due("size(" + k + ")", x.size(k), -1);
            }
        }
        PageVault x = new PageVault(8);
        for (int k = 0; k < 512; k++) {
            due("at(" + k + ")", x.at(k), 0);
        }
        due("NONE", PageVault.NONE, -1);
    }

    private static void make() {
        section = "2, make";
        PageVault x = new PageVault(32);
        for (int k = 0; k < 16; k++) {
            due("make()", x.make(), k);
            due("free()", x.free(), 31 - k);
            due("size", x.size(k), 0);
            due("flags", x.flags(k, 0), -1);
        }
        due("make() of a 17th", x.make(), -1);
        due("free()", x.free(), 16);
        x.drop(9);
        x.drop(4);
        due("make() of the least", x.make(), 4);
        due("make() of the next", x.make(), 9);
        due("make() of a 17th again", x.make(), -1);

        x = new PageVault(8);
        for (int k = 0; k < 8; k++) {
            due("make()", x.make(), k);
        }
        due("make() without a frame", x.make(), -1);
        x.drop(5);
        due("make() after a drop", x.make(), 5);

        x = withSize(8, 5000);
        x.store(0, 4096, 4, 77);
        x.drop(0);
        due("make() anew", x.make(), 0);
        due("size(0) anew", x.size(0), 0);
        due("flags(0, 4096) anew", x.flags(0, 4096), -1);
        x.grow(0, 5000);
        due("load(0, 4096, 4) anew", x.load(0, 4096, 4), 0);
    }

    private static void drop() {
        section = "3, drop";
        PageVault x = withSize(10, 4096 * 3);
        for (int space : WRONG_SPACES) {
            due("drop(" + space + ")", x.drop(space), false);
        }
        x.store(0, 0, 4, 1);
        x.store(0, 8192, 4, 1);
        x.map(0, LAST_PAGE, 0);
        due("free()", x.free(), 4);
        due("drop(0)", x.drop(0), true);
        due("free()", x.free(), 10);
        due("size(0)", x.size(0), -1);
        due("flags(0, 0)", x.flags(0, 0), -1);
        due("drop(0) again", x.drop(0), false);
        due("free()", x.free(), 10);
    }

    private static void dropSharedPages() {
        section = "3, drop of shared pages";
        PageVault x = withSize(12, 4096);
        x.store(0, 0, 4, 99);
        due("fork(0)", x.fork(0), 1);
        due("fork(1)", x.fork(1), 2);
        due("owners(2, 0)", x.owners(2, 0), 3);
        due("free()", x.free(), 5);
        due("drop(0)", x.drop(0), true);
        due("free()", x.free(), 7);
        due("owners(1, 0)", x.owners(1, 0), 2);
        due("load(1, 0, 4)", x.load(1, 0, 4), 99);
        due("drop(1)", x.drop(1), true);
        due("owners(2, 0)", x.owners(2, 0), 1);
        due("load(2, 0, 4)", x.load(2, 0, 4), 99);
        due("free()", x.free(), 9);
        due("drop(2)", x.drop(2), true);
        due("free()", x.free(), 12);
        // An emptied region keeps its frame until the space is dropped.
        due("make()", x.make(), 0);
        x.map(0, 0, 11);
        x.grow(0, -4096);
        due("free()", x.free(), 10);
        x.drop(0);
        due("free()", x.free(), 12);
    }

    private static void fork() {
        section = "4, fork";
        PageVault x = withSpace(20);
        x.map(0, 4096, 11);
        x.map(0, REGION, 0);
        x.map(0, 2 * REGION, 13);
        x.store(0, 4100, 4, 0x01020304);
        x.grow(0, 7);
        due("free()", x.free(), 13);
        due("fork(0)", x.fork(0), 1);
        due("free()", x.free(), 9);
        due("size(1)", x.size(1), 2 * REGION + 4096 + 7);
        due("flags(1, 4096)", x.flags(1, 4096), 11);
        due("flags(1, REGION)", x.flags(1, REGION), 0);
        due("flags(1, 2 * REGION)", x.flags(1, 2 * REGION), 13);
        due("flags(1, 0)", x.flags(1, 0), -1);
        due("owners(0, REGION)", x.owners(0, REGION), 2);
        due("owners(1, REGION)", x.owners(1, REGION), 2);
        due("load(1, 4100, 4)", x.load(1, 4100, 4), 0x01020304);
        // Flags and SIZE are each space's own from then on.
        due("protect(1, 4096, 9)", x.protect(1, 4096, 9), true);
        due("flags(0, 4096)", x.flags(0, 4096), 11);
        due("grow(1, 1)", x.grow(1, 1), 2 * REGION + 4096 + 7);
        due("size(0)", x.size(0), 2 * REGION + 4096 + 7);
        due("store(0, 4100, 1, 9)", x.store(0, 4100, 1, 9), true);
        due("load(1, 4100, 4)", x.load(1, 4100, 4), 0x01020304);
        due("load(0, 4100, 4)", x.load(0, 4100, 4), 0x01020309);
        // A page made in one later is not in the other one.
        x.load(0, 0, 1);
        due("flags(0, 0)", x.flags(0, 0), 11);
        due("flags(1, 0)", x.flags(1, 0), -1);
        x.drop(0);
        due("fork(1) takes the least number", x.fork(1), 0);
    }

    private static void forkRefused() {
        section = "4, fork refused";
        PageVault x = withSpace(32);
        for (int space : WRONG_SPACES) {
            due("fork(" + space + ")", x.fork(space), -1);
        }
        for (int k = 1; k < 16; k++) {
            due("fork(0)", x.fork(0), k);
        }
        due("fork(0) of a 17th", x.fork(0), -1);
        due("free()", x.free(), 16);

        x = withSpace(8);
        x.map(0, 0, 11);
        x.map(0, REGION, 11);
        due("free()", x.free(), 3);
        x.make();
        due("fork(0) with 2 of 3 frames", x.fork(0), -1);
        due("free()", x.free(), 2);
        due("owners(0, 0)", x.owners(0, 0), 1);
        due("size(2)", x.size(2), -1);
        x.drop(1);
        due("fork(0) with 3 of 3 frames", x.fork(0), 1);
        due("free()", x.free(), 0);

        // A region in which no page is left costs the fork nothing.
        x = withSpace(8);
        x.map(0, 0, 11);
        x.map(0, REGION, 11);
        x.map(0, REGION + 4096, 11);
        x.grow(0, -2 * 4096);
        due("free()", x.free(), 4);
        due("fork(0)", x.fork(0), 1);
        due("free()", x.free(), 2);
        due("map(1, REGION, 11) takes two", x.map(1, REGION, 11), 0);
        due("free()", x.free(), 0);
    }

    private static void map() {
        section = "5, map";
        PageVault x = withSpace(20);
        due("map(0, 0, 0)", x.map(0, 0, 0), 0);
        due("size(0)", x.size(0), 4096);
        due("flags(0, 4095)", x.flags(0, 4095), 0);
        due("free()", x.free(), 17);
        due("map(0, 8192, 15)", x.map(0, 8192, 15), 0);
        due("size(0)", x.size(0), 12288);
        due("map(0, 4096, 9)", x.map(0, 4096, 9), 0);
        due("size(0) is not less", x.size(0), 12288);
        due("free()", x.free(), 15);
        due("map of the last page", x.map(0, LAST_PAGE, 11), 0);
        due("size(0)", x.size(0), LIMIT);
        due("free()", x.free(), 13);
        due("store at the end", x.store(0, LIMIT - 4, 4, -2), true);
        due("load at the end", x.load(0, LIMIT - 4, 4), -2);
        due("load(0, 4096, 4)", x.load(0, 4096, 4), 0);

        // A frame that was used before comes with zeros.
        x = withSpace(8);
        x.map(0, 0, 11);
        x.store(0, 0, 4, -1);
        x.store(0, 4092, 4, -1);
        x.grow(0, -4096);
        x.map(0, 0, 11);
        due("load(0, 0, 4)", x.load(0, 0, 4), 0);
        due("load(0, 4092, 4)", x.load(0, 4092, 4), 0);
    }

    private static void mapRefused() {
        section = "5, map refused";
        PageVault x = withSpace(20);
        for (int space : WRONG_SPACES) {
            due("map(" + space + ", 0, 11)", x.map(space, 0, 11), -1);
        }
        for (int at : WRONG_ADDRESSES) {
            due("map(0, " + at + ", 11)", x.map(0, at, 11), -1);
        }
        for (int flags : WRONG_FLAGS) {
            due("map(0, 0, " + flags + ")", x.map(0, 0, flags), -1);
        }
        for (int at : new int[] {1, 4, 1024, 2048, 4095, 4097, LAST_PAGE + 1, LIMIT - 1}) {
            due("map(0, " + at + ", 11)", x.map(0, at, 11), -1);
        }
        due("free()", x.free(), 19);
        due("size(0)", x.size(0), 0);
        x.map(0, 0, 0);
        due("map of a page that is there", x.map(0, 0, 11), -1);
        due("flags(0, 0)", x.flags(0, 0), 0);
        due("free()", x.free(), 17);
    }

    private static void mapWithoutFrames() {
        section = "5, map without frames";
        PageVault x = withSpace(8);
        for (int k = 0; k < 5; k++) {
            due("map", x.map(0, 4096 * k, 11), 0);
        }
        due("free()", x.free(), 1);
        due("map in a new region with one frame", x.map(0, REGION, 11), -2);
        due("free()", x.free(), 1);
        due("size(0)", x.size(0), 5 * 4096);
        due("flags(0, REGION)", x.flags(0, REGION), -1);
        due("map with the last frame", x.map(0, 5 * 4096, 11), 0);
        due("map without a frame", x.map(0, 6 * 4096, 11), -2);
        due("map in a new region without a frame", x.map(0, REGION, 11), -2);
        due("NONE goes before -2: there", x.map(0, 0, 11), -1);
        due("NONE goes before -2: flags", x.map(0, 6 * 4096, 16), -1);
        due("size(0)", x.size(0), 6 * 4096);
        // The emptied region has its frame still, so one free frame suffices for it.
        x.grow(0, -6 * 4096);
        for (int k = 0; k < 5; k++) {
            x.make();
        }
        due("free()", x.free(), 1);
        due("map in the kept region", x.map(0, 1023 * 4096, 11), 0);
        due("free()", x.free(), 0);
    }

    private static void protect() {
        section = "6, protect";
        PageVault x = withSpace(20);
        x.map(0, 4096, 11);
        for (int flags = 0; flags <= 15; flags++) {
            due("protect(0, 4096, " + flags + ")", x.protect(0, 4096, flags), true);
            due("flags(0, 8191)", x.flags(0, 8191), flags);
            x.load(0, 4096, 4);
            due("trap() of load", x.trap(), (flags & 9) == 9 ? 0 : 1);
            x.store(0, 4096, 4, 5);
            due("trap() of store", x.trap(), (flags & 10) == 10 ? 0 : 1);
            x.fetch(0, 4096);
            due("trap() of fetch", x.trap(), (flags & 12) == 12 ? 0 : 1);
        }
        for (int flags : WRONG_FLAGS) {
            due("protect(0, 4096, " + flags + ")", x.protect(0, 4096, flags), false);
        }
        for (int space : WRONG_SPACES) {
            due("protect(" + space + ", 4096, 1)", x.protect(space, 4096, 1), false);
        }
        for (int at : WRONG_ADDRESSES) {
            due("protect(0, " + at + ", 1)", x.protect(0, at, 1), false);
        }
        for (int at : new int[] {0, 4097, 4100, 8191, 8192, REGION, LAST_PAGE}) {
            due("protect(0, " + at + ", 1)", x.protect(0, at, 1), false);
        }
        due("flags(0, 4096)", x.flags(0, 4096), 15);
        x.fork(0);
        due("protect of a shared page", x.protect(0, 4096, 3), true);
        due("owners(0, 4096)", x.owners(0, 4096), 2);
        due("flags(1, 4096)", x.flags(1, 4096), 15);
        due("load(1, 4096, 4)", x.load(1, 4096, 4), 5);
    }

    private static void grow() {
        section = "7, grow";
        PageVault x = withSpace(8);
        due("grow(0, 0)", x.grow(0, 0), 0);
        due("grow(0, 10)", x.grow(0, 10), 0);
        due("grow(0, 5000)", x.grow(0, 5000), 10);
        due("grow(0, -4)", x.grow(0, -4), 5010);
        due("size(0)", x.size(0), 5006);
        due("grow to LIMIT", x.grow(0, LIMIT - 5006), 5006);
        due("size(0)", x.size(0), LIMIT);
        due("store in the last word", x.store(0, LIMIT - 4, 4, 3), true);
        due("grow(0, 0) at LIMIT", x.grow(0, 0), LIMIT);
        due("load of the last word", x.load(0, LIMIT - 4, 4), 3);
        due("grow to 0", x.grow(0, -LIMIT), LIMIT);
        due("size(0)", x.size(0), 0);
        due("free()", x.free(), 6);
    }

    private static void growRemovesPages() {
        section = "7, grow that removes pages";
        PageVault x = withSize(12, 3 * 4096);
        x.store(0, 0, 4, 10);
        x.store(0, 4096, 4, 11);
        x.store(0, 8188, 4, 13);
        x.store(0, 8192, 4, 12);
        x.map(0, REGION, 11);
        due("free()", x.free(), 5);
        due("grow to 4097", x.grow(0, 4097 - (REGION + 4096)), REGION + 4096);
        due("free()", x.free(), 7);
        due("flags(0, 8192)", x.flags(0, 8192), -1);
        due("flags(0, REGION)", x.flags(0, REGION), -1);
        due("flags(0, 4096)", x.flags(0, 4096), 11);
        due("load behind SIZE in a page that is there", x.load(0, 8188, 4), 13);
        due("grow to 4096", x.grow(0, -1), 4097);
        due("flags(0, 4096)", x.flags(0, 4096), -1);
        due("load(0, 0, 4)", x.load(0, 0, 4), 10);
        due("grow back", x.grow(0, 4096), 4096);
        due("load(0, 4096, 4) of a page made anew", x.load(0, 4096, 4), 0);

        // The next region goes whole, even its first pages.
        x = withSpace(12);
        x.map(0, 4096, 11);
        x.map(0, REGION, 11);
        x.map(0, REGION + 4096, 11);
        x.grow(0, -2 * 4096 - REGION + 8192);
        due("size(0)", x.size(0), 8192);
        due("flags(0, REGION)", x.flags(0, REGION), -1);
        due("flags(0, REGION + 4096)", x.flags(0, REGION + 4096), -1);
        due("flags(0, 4096)", x.flags(0, 4096), 11);

        // Of a shared page only the one in this space goes.
        x = withSize(12, 4096);
        x.store(0, 0, 4, 7);
        x.fork(0);
        due("grow(0, -4096)", x.grow(0, -4096), 4096);
        due("owners(1, 0)", x.owners(1, 0), 1);
        due("load(1, 0, 4)", x.load(1, 0, 4), 7);
        due("free()", x.free(), 7);
    }

    private static void growRefused() {
        section = "7, grow refused";
        PageVault x = withSize(12, 4096);
        x.store(0, 0, 4, 7);
        for (int space : WRONG_SPACES) {
            due("grow(" + space + ", 1)", x.grow(space, 1), -1);
        }
        for (int n : new int[] {-4097, LIMIT - 4095, LIMIT, Integer.MAX_VALUE, Integer.MIN_VALUE}) {
            due("grow(0, " + n + ")", x.grow(0, n), -1);
            due("size(0)", x.size(0), 4096);
        }
        due("flags(0, 0)", x.flags(0, 0), 11);
        x.grow(0, LIMIT - 4096);
        due("grow(0, 1) at LIMIT", x.grow(0, 1), -1);
        due("grow(0, MAX_VALUE) at LIMIT", x.grow(0, Integer.MAX_VALUE), -1);
        due("grow(0, -LIMIT - 1) at LIMIT", x.grow(0, -LIMIT - 1), -1);
        due("size(0)", x.size(0), LIMIT);
    }

    private static void size() {
        section = "8, size";
        PageVault x = withSize(12, 123);
        due("size(0)", x.size(0), 123);
        for (int space : WRONG_SPACES) {
            due("size(" + space + ")", x.size(space), -1);
        }
        x.make();
        due("size(1)", x.size(1), 0);
        x.drop(0);
        due("size(0)", x.size(0), -1);
    }

    private static void load() {
        section = "9, load";
        PageVault x = withSize(12, 8192);
        x.store(0, 4088, 4, 0x81828384);
        x.store(0, 4092, 4, 0xF5F6F7F8);
        due("4 bytes", x.load(0, 4088, 4), 0x81828384);
        due("2 bytes, lowest", x.load(0, 4088, 2), 0x8384);
        due("2 bytes, highest", x.load(0, 4090, 2), 0x8182);
        for (int k = 0; k < 4; k++) {
            due("1 byte", x.load(0, 4088 + k, 1), 0x84 - k);
            due("1 byte", x.load(0, 4092 + k, 1), 0xF8 - k);
        }
        due("trap()", x.trap(), 0);
    }

    private static void loadMakesPages() {
        section = "9, load makes pages";
        PageVault x = withSize(8, REGION + 5000);
        due("load of an unmade page", x.load(0, 4999, 1), 0);
        due("trap()", x.trap(), 0);
        due("flags", x.flags(0, 4096), 11);
        due("owners", x.owners(0, 4096), 1);
        due("free()", x.free(), 5);
        due("load in the next region", x.load(0, REGION + 4999, 1), 0);
        due("free()", x.free(), 3);
        due("load at SIZE in a made page", x.load(0, REGION + 5000, 1), 0);
        due("trap()", x.trap(), 0);
        due("load at SIZE in an unmade page", x.load(0, REGION + 8192, 1), 0);
        due("trap()", x.trap(), 1);
        due("free()", x.free(), 3);

        x = withSize(8, 5000);
        x.load(0, 5000, 1);
        due("trap() at SIZE", x.trap(), 1);
        due("flags", x.flags(0, 4096), -1);
        x.load(0, 4996, 4);
        due("trap() right below SIZE", x.trap(), 0);

        // SIZE 4097: the first byte alone decides, though the number ends behind SIZE.
        x = withSize(8, 4097);
        x.load(0, 4096, 4);
        due("trap() of a number over SIZE", x.trap(), 0);
    }

    private static void loadFromEveryFrame() {
        section = "9, load from every frame";
        PageVault x = new PageVault(8);
        for (int k = 0; k < 6; k++) {
            x.make();
        }
        x.grow(5, 6 * 4096);
        x.load(5, 0, 1);
        for (int k = 0; k < 5; k++) {
            x.drop(k);
            due("store", x.store(5, 4096 * (k + 1), 4, 100 + k), true);
        }
        due("free()", x.free(), 0);
        for (int k = 0; k < 5; k++) {
            due("load", x.load(5, 4096 * (k + 1), 4), 100 + k);
        }
    }

    private static void loadTraps() {
        section = "9, load traps";
        PageVault x = withSize(8, LIMIT);
        for (int space : WRONG_SPACES) {
            due("load(" + space + ", 0, 4)", x.load(space, 0, 4), 0);
            due("trap()", x.trap(), 1);
            x.load(space, 2, 4);
            due("trap() is 2 first", x.trap(), 2);
            x.load(space, 0, 3);
            due("trap() is 2 first", x.trap(), 2);
        }
        for (int at : WRONG_ADDRESSES) {
            due("load(0, " + at + ", 1)", x.load(0, at, 1), 0);
            due("trap()", x.trap(), 1);
            x.load(0, at, 4);
            due("trap()", x.trap(), at % 4 == 0 ? 1 : 2);
        }
        for (int n : new int[] {0, 3, 5, 8, -1, -2, -4, 16, Integer.MIN_VALUE, Integer.MAX_VALUE}) {
            due("load(0, 0, " + n + ")", x.load(0, 0, n), 0);
            due("trap()", x.trap(), 2);
        }
        int[][] crooked = {{1, 2}, {3, 2}, {1, 4}, {2, 4}, {3, 4}, {-1, 2}, {-2, 4}, {LIMIT - 1, 2}, {LIMIT - 2, 4}};
        for (int[] pair : crooked) {
            due("load of a crooked address", x.load(0, pair[0], pair[1]), 0);
            due("trap()", x.trap(), 2);
        }
        due("free()", x.free(), 7);
        for (int k = 0; k < 5; k++) {
            x.load(0, 4096 * k, 1);
            due("trap()", x.trap(), 0);
        }
        x.load(0, REGION, 1);
        due("trap() with one frame for two", x.trap(), 3);
        due("free()", x.free(), 1);
        x.load(0, 4096 * 5, 1);
        due("trap() with the last frame", x.trap(), 0);
        due("load without a frame", x.load(0, 4096 * 6, 1), 0);
        due("trap() without a frame", x.trap(), 3);
        due("flags", x.flags(0, 4096 * 6), -1);
        x.load(0, 4096 * 6 + 1, 2);
        due("trap() 2 goes before 3", x.trap(), 2);
    }

    private static void fetch() {
        section = "10, fetch";
        PageVault x = withSize(10, 8192);
        x.map(0, 8192, 15);
        x.store(0, 8196, 4, 0x90000013);
        due("fetch(0, 8196)", x.fetch(0, 8196), 0x90000013);
        due("trap()", x.trap(), 0);
        for (int at : new int[] {8197, 8198, 8199, -1, -2, LIMIT + 1}) {
            due("fetch(0, " + at + ")", x.fetch(0, at), 0);
            due("trap()", x.trap(), 2);
        }
        x.protect(0, 8192, 12);
        due("fetch with 8 and 4 alone", x.fetch(0, 8196), 0x90000013);
        due("trap()", x.trap(), 0);
        x.protect(0, 8192, 11);
        due("fetch without 4", x.fetch(0, 8196), 0);
        due("trap()", x.trap(), 1);
        x.protect(0, 8192, 7);
        due("fetch without 8", x.fetch(0, 8196), 0);
        due("trap()", x.trap(), 1);
        int before = x.free();
        due("fetch of an unmade page", x.fetch(0, 0), 0);
        due("trap()", x.trap(), 1);
        due("free()", x.free(), before);
        for (int space : WRONG_SPACES) {
            due("fetch(" + space + ", 0)", x.fetch(space, 0), 0);
            due("trap()", x.trap(), 1);
            x.fetch(space, 2);
            due("trap()", x.trap(), 2);
        }
        for (int at : new int[] {-4, LIMIT, Integer.MIN_VALUE}) {
            due("fetch(0, " + at + ")", x.fetch(0, at), 0);
            due("trap()", x.trap(), 1);
        }
        // A fetch from a shared page parts nothing.
        x.protect(0, 8192, 15);
        x.fork(0);
        due("fetch(1, 8196)", x.fetch(1, 8196), 0x90000013);
        due("owners(1, 8196)", x.owners(1, 8196), 2);
    }

    private static void store() {
        section = "11, store";
        PageVault x = withSize(10, 8192);
        due("store of 4", x.store(0, 4092, 4, 0x11223344), true);
        due("store of 1", x.store(0, 4093, 1, 0xABCDEF99), true);
        due("load", x.load(0, 4092, 4), 0x11229944);
        due("store of 2", x.store(0, 4094, 2, 0x7777FFEE), true);
        due("load", x.load(0, 4092, 4), 0xFFEE9944);
        due("store of 2", x.store(0, 4092, 2, 0), true);
        due("load", x.load(0, 4092, 4), 0xFFEE0000);
        due("store of 1, highest", x.store(0, 4095, 1, -128), true);
        due("load", x.load(0, 4092, 4), 0x80EE0000);
        due("load before", x.load(0, 4088, 4), 0);
        due("load behind", x.load(0, 4096, 4), 0);
        due("trap()", x.trap(), 0);
        due("flags", x.flags(0, 4092), 11);
    }

    private static void storeParts() {
        section = "11, store parts";
        PageVault x = withSize(9, 4096);
        x.store(0, 0, 4, 1);
        x.store(0, 4092, 4, 2);
        x.protect(0, 0, 15);
        x.fork(0);
        x.fork(0);
        due("free()", x.free(), 2);
        due("owners", x.owners(0, 0), 3);
        due("load of a shared page", x.load(1, 0, 4), 1);
        due("owners after a load", x.owners(0, 0), 3);
        due("store(1, 0, 4, 5)", x.store(1, 0, 4, 5), true);
        due("free()", x.free(), 1);
        due("owners(1, 0)", x.owners(1, 0), 1);
        due("owners(0, 0)", x.owners(0, 0), 2);
        due("owners(2, 0)", x.owners(2, 0), 2);
        due("flags(1, 0)", x.flags(1, 0), 15);
        due("load(1, 4092, 4) is the same", x.load(1, 4092, 4), 2);
        due("load(0, 0, 4)", x.load(0, 0, 4), 1);
        due("load(2, 0, 4)", x.load(2, 0, 4), 1);
        x.make();
        due("free()", x.free(), 0);
        due("store without a frame to part", x.store(2, 0, 4, 6), false);
        due("trap()", x.trap(), 3);
        due("owners(2, 0)", x.owners(2, 0), 2);
        due("load(2, 0, 4)", x.load(2, 0, 4), 1);
        due("store to an own page", x.store(1, 0, 4, 8), true);
        x.protect(2, 0, 9);
        due("store that is forbidden", x.store(2, 0, 4, 6), false);
        due("trap() 1 goes before 3", x.trap(), 1);
        x.drop(3);
        due("store(0, 0, 4, 7)", x.store(0, 0, 4, 7), true);
        due("free()", x.free(), 0);
        x.protect(2, 0, 11);
        due("store to the last of the shared", x.store(2, 0, 4, 9), true);
        due("load(0, 0, 4)", x.load(0, 0, 4), 7);
        due("load(1, 0, 4)", x.load(1, 0, 4), 8);
        due("load(2, 0, 4)", x.load(2, 0, 4), 9);
    }

    private static void storeTraps() {
        section = "11, store traps";
        PageVault x = withSize(8, 4097);
        for (int space : WRONG_SPACES) {
            due("store(" + space + ", 0, 4, 1)", x.store(space, 0, 4, 1), false);
            due("trap()", x.trap(), 1);
            due("store(" + space + ", 0, 3, 1)", x.store(space, 0, 3, 1), false);
            due("trap()", x.trap(), 2);
        }
        for (int at : WRONG_ADDRESSES) {
            due("store(0, " + at + ", 1, 1)", x.store(0, at, 1, 1), false);
            due("trap()", x.trap(), 1);
        }
        for (int n : new int[] {0, 3, 5, 8, -1, -4, Integer.MIN_VALUE, Integer.MAX_VALUE}) {
            due("store(0, 0, " + n + ", 1)", x.store(0, 0, n, 1), false);
            due("trap()", x.trap(), 2);
        }
        due("store(0, 4098, 4, 1)", x.store(0, 4098, 4, 1), false);
        due("trap()", x.trap(), 2);
        due("store at SIZE", x.store(0, 4097, 1, 1), false);
        due("trap()", x.trap(), 1);
        due("free()", x.free(), 7);
        due("store below SIZE", x.store(0, 4096, 4, 1), true);
        due("store at SIZE in a made page", x.store(0, 4097, 1, 1), true);
        for (int k = 1; k < 6; k++) {
            x.make();
        }
        due("free()", x.free(), 0);
        due("store without a frame", x.store(0, 0, 4, 1), false);
        due("trap()", x.trap(), 3);
        due("flags(0, 0)", x.flags(0, 0), -1);
    }

    private static void trap() {
        section = "12, trap";
        PageVault x = withSize(10, 4096);
        due("trap()", x.trap(), 0);
        x.load(0, 1, 2);
        due("trap() of load", x.trap(), 2);
        due("trap() again", x.trap(), 2);
        x.make();
        x.grow(0, 1);
        x.size(9);
        x.map(9, 0, 0);
        x.protect(9, 0, 0);
        x.fork(9);
        x.drop(9);
        x.put(-1, 0);
        x.at(-1);
        x.free();
        x.flags(9, 0);
        x.owners(9, 0);
        due("trap() after other calls", x.trap(), 2);
        x.store(0, 0, 4, 1);
        due("trap() of store", x.trap(), 0);
        x.fetch(0, 0);
        due("trap() of fetch", x.trap(), 1);
        due("out(0, 0, 1)", x.out(0, 0, 1), 1);
        due("trap() of out", x.trap(), 0);
        x.fetch(0, 2);
        due("in(0, 0, 1)", x.in(0, 0, 1), 1);
        due("trap() of in", x.trap(), 0);
        x.fetch(0, 2);
        due("text(0, 4, 1)", x.text(0, 4, 1), 0);
        due("trap() of text", x.trap(), 0);
        x.fetch(0, 2);
        due("text without a 0", x.store(0, 0, 1, 1) ? x.text(0, 0, 1) : 0, -1);
        due("trap() of text without a 0", x.trap(), 0);
        x.fetch(0, 2);
        due("load(0, 0, 4)", x.load(0, 0, 4), 1);
        due("trap() of load", x.trap(), 0);
        x.fetch(0, 2);
        due("out of nothing", x.out(0, 0, 0), 0);
        due("trap() of out of nothing", x.trap(), 0);
        x.map(0, 8192, 12);
        x.load(0, 1, 2);
        x.fetch(0, 8192);
        due("trap() of fetch", x.trap(), 0);
    }

    private static void out() {
        section = "13, out";
        PageVault x = withSize(10, 12288);
        fill(x, 0, 200, 20);
        due("out(0, 4000, 200)", x.out(0, 4000, 200), 200);
        due("trap()", x.trap(), 0);
        due("free()", x.free(), 6);
        for (int k = 0; k < 200; k++) {
            due("load of byte " + k, x.load(0, 4000 + k, 1), 20 + k);
        }
        due("byte before", x.load(0, 3999, 1), 0);
        due("byte behind", x.load(0, 4200, 1), 0);
        due("at(3) stays", x.at(3), 23);
        due("out of all", x.out(0, 8192, 512), 512);
        due("load(0, 8192 + 196, 4)", x.load(0, 8192 + 196, 4), 0xDBDAD9D8);
        due("load(0, 8192 + 508, 4)", x.load(0, 8192 + 508, 4), 0);
        due("out of none", x.out(0, 0, 0), 0);
        for (int n : new int[] {-1, 513, Integer.MAX_VALUE, Integer.MIN_VALUE}) {
            x.fetch(0, 1);
            due("out(0, 0, " + n + ")", x.out(0, 0, n), -1);
            due("trap()", x.trap(), 0);
            x.fetch(0, 1);
            due("out(5, 0, " + n + ")", x.out(5, 0, n), -1);
            due("trap()", x.trap(), 0);
        }
        for (int space : WRONG_SPACES) {
            due("out(" + space + ", 0, 1)", x.out(space, 0, 1), 0);
            due("trap()", x.trap(), 1);
            due("out(" + space + ", 0, 0)", x.out(space, 0, 0), 0);
            due("trap()", x.trap(), 0);
        }
        due("out of none nowhere", x.out(0, -1, 0), 0);
        due("trap()", x.trap(), 0);
    }

    private static void outKeepsNeighbours() {
        section = "13, out keeps the bytes around";
        for (int from = 0; from < 4; from++) {
            for (int n = 0; n < 6; n++) {
                PageVault x = withSize(10, 4096);
                for (int k = 0; k < 12; k += 4) {
                    x.store(0, 100 + k, 4, -1);
                }
                fill(x, 0, 6, 1);
                due("out", x.out(0, 100 + from, n), n);
                for (int k = 0; k < 12; k++) {
                    due("load", x.load(0, 100 + k, 1), k < from || k >= from + n ? 255 : 1 + k - from);
                }
            }
        }
    }

    private static void outTraps() {
        section = "13, out with traps";
        PageVault x = withSize(8, 4096 + 10);
        fill(x, 0, 100, 1);
        for (int at : WRONG_ADDRESSES) {
            due("out(0, " + at + ", 5)", x.out(0, at, 5), 0);
            due("trap()", x.trap(), 1);
        }
        // The second page is made by its first byte, so SIZE within it stops nothing.
        due("out over SIZE", x.out(0, 4090, 100), 100);
        due("out to a page behind SIZE", x.out(0, 8190, 5), 2);
        due("trap()", x.trap(), 1);
        due("load(0, 8190, 2)", x.load(0, 8190, 2), 0x0201);
        x.protect(0, 4096, 9);
        due("out to a page that can't be written", x.out(0, 4092, 5), 4);
        due("trap()", x.trap(), 1);
        due("load(0, 4092, 4)", x.load(0, 4092, 4), 0x04030201);
        due("load(0, 4096, 1)", x.load(0, 4096, 1), 7);
        x.protect(0, 4096, 11);
        due("free()", x.free(), 4);
        x.make();
        // Of the three frames left the copy takes two, and the last one parts the first page alone.
        due("fork(0)", x.fork(0), 2);
        due("free()", x.free(), 1);
        fill(x, 0, 6, 101);
        due("out with one frame to part", x.out(2, 4093, 6), 3);
        due("trap()", x.trap(), 3);
        due("owners(2, 4095)", x.owners(2, 4095), 1);
        due("owners(2, 4096)", x.owners(2, 4096), 2);
        due("load(2, 4092, 4)", x.load(2, 4092, 4), 0x67666501);
        due("load(0, 4092, 4)", x.load(0, 4092, 4), 0x04030201);
        due("load(2, 4096, 1)", x.load(2, 4096, 1), 7);

        x = withSize(8, LIMIT);
        due("out over LIMIT", x.out(0, LIMIT - 3, 512), 3);
        due("trap()", x.trap(), 1);
    }

    private static void in() {
        section = "14, in";
        PageVault x = withSize(10, 12288);
        for (int k = 0; k < 20; k++) {
            x.store(0, 4086 + k, 1, 236 + k);
        }
        fill(x, 0, 40, 1);
        due("in(0, 4086, 20)", x.in(0, 4086, 20), 20);
        due("trap()", x.trap(), 0);
        for (int k = 0; k < 40; k++) {
            due("at(" + k + ")", x.at(k), k < 20 ? 236 + k : 1 + k);
        }
        due("free()", x.free(), 6);
        due("in of all", x.in(0, 8192, 512), 512);
        due("at(0)", x.at(0), 0);
        due("flags of a page made", x.flags(0, 8192), 11);
        due("free()", x.free(), 5);
        due("in of none", x.in(0, 0, 0), 0);
        x.fork(0);
        due("in of a shared page", x.in(1, 4086, 20), 20);
        due("owners stay", x.owners(1, 4086), 2);
        for (int n : new int[] {-1, 513, Integer.MAX_VALUE, Integer.MIN_VALUE}) {
            x.fetch(0, 1);
            due("in(0, 0, " + n + ")", x.in(0, 0, n), -1);
            due("trap()", x.trap(), 0);
            x.fetch(0, 1);
            due("in(5, 0, " + n + ")", x.in(5, 0, n), -1);
            due("trap()", x.trap(), 0);
        }
        x.drop(1);
        for (int space : WRONG_SPACES) {
            due("in(" + space + ", 0, 1)", x.in(space, 0, 1), 0);
            due("trap()", x.trap(), 1);
            due("in(" + space + ", 0, 0)", x.in(space, 0, 0), 0);
            due("trap()", x.trap(), 0);
        }
        due("at(19)", x.at(19), 255);
    }

    private static void inTraps() {
        section = "14, in with traps";
        PageVault x = withSize(8, 4096);
        fill(x, 0, 20, 1);
        for (int at : WRONG_ADDRESSES) {
            due("in(0, " + at + ", 5)", x.in(0, at, 5), 0);
            due("trap()", x.trap(), 1);
        }
        due("at(0)", x.at(0), 1);
        due("in over SIZE", x.in(0, 4094, 20), 2);
        due("trap()", x.trap(), 1);
        due("at(1)", x.at(1), 0);
        due("at(2)", x.at(2), 3);
        x.map(0, 4096, 14);
        due("in of a page that can't be read", x.in(0, 4095, 20), 1);
        due("trap()", x.trap(), 1);
        x.protect(0, 4096, 7);
        due("in of a page that is not the user's", x.in(0, 4095, 20), 1);
        x.protect(0, 4096, 9);
        due("in of a page that can be read alone", x.in(0, 4095, 20), 20);
        x.grow(0, LIMIT - 8192);
        due("in over LIMIT", x.in(0, LIMIT - 5, 20), 5);
        due("trap()", x.trap(), 1);
        due("free()", x.free(), 2);
        x.make();
        due("in with one frame for two pages", x.in(0, 12287, 2), 1);
        due("trap()", x.trap(), 3);
    }

    private static void text() {
        section = "15, text";
        PageVault x = withSize(10, 8192);
        fill(x, 0, 30, 200);
        x.put(30, 0);
        x.out(0, 4080, 31);
        fill(x, 0, 40, 1);
        due("text(0, 4080, 512)", x.text(0, 4080, 512), 30);
        due("trap()", x.trap(), 0);
        for (int k = 0; k < 40; k++) {
            due("at(" + k + ")", x.at(k), k < 30 ? 200 + k : k == 30 ? 0 : 1 + k);
        }
        due("text with the 0 as its last", x.text(0, 4080, 31), 30);
        fill(x, 0, 40, 1);
        due("text with the 0 behind its last", x.text(0, 4080, 30), -1);
        due("trap()", x.trap(), 0);
        due("at(29)", x.at(29), 229);
        due("at(30)", x.at(30), 31);
        due("text that is empty", x.text(0, 4110, 5), 0);
        due("at(0)", x.at(0), 0);
        due("at(1)", x.at(1), 201);
        due("text of one byte, not 0", x.text(0, 4109, 1), -1);
        due("at(0)", x.at(0), 229);
        for (int n : new int[] {0, -1, 513, Integer.MAX_VALUE, Integer.MIN_VALUE}) {
            x.fetch(0, 1);
            due("text(0, 4110, " + n + ")", x.text(0, 4110, n), -1);
            due("trap()", x.trap(), 0);
            x.fetch(0, 1);
            due("text(5, 0, " + n + ")", x.text(5, 0, n), -1);
            due("trap()", x.trap(), 0);
        }
        due("at(0)", x.at(0), 229);
        for (int space : WRONG_SPACES) {
            due("text(" + space + ", 0, 1)", x.text(space, 0, 1), -1);
            due("trap()", x.trap(), 1);
        }
    }

    private static void textTraps() {
        section = "15, text with traps";
        PageVault x = withSize(8, 4096);
        fill(x, 0, 5, 51);
        x.out(0, 4091, 5);
        fill(x, 0, 9, 1);
        due("text over SIZE", x.text(0, 4091, 9), -1);
        due("trap()", x.trap(), 1);
        due("at(4)", x.at(4), 55);
        due("at(5)", x.at(5), 6);
        due("text that ends before the trap", x.text(0, 4091, 5), -1);
        due("trap()", x.trap(), 0);
        for (int at : WRONG_ADDRESSES) {
            due("text(0, " + at + ", 5)", x.text(0, at, 5), -1);
            due("trap()", x.trap(), 1);
        }
        x.protect(0, 0, 14);
        due("text that can't be read", x.text(0, 0, 5), -1);
        due("trap()", x.trap(), 1);
        x.protect(0, 0, 9);
        due("text that can be read alone", x.text(0, 0, 5), 0);
        x.grow(0, 4096);
        due("text in a page made", x.text(0, 4095, 5), 1);
        due("flags", x.flags(0, 4096), 11);
        for (int k = 0; k < 4; k++) {
            x.make();
        }
        x.grow(0, 4096);
        x.store(0, 8191, 1, 1);
        due("free()", x.free(), 0);
        due("text without a frame", x.text(0, 8191, 5), -1);
        due("trap()", x.trap(), 3);
    }

    private static void put() {
        section = "16, put";
        PageVault x = new PageVault(8);
        due("put(0, 255)", x.put(0, 255), true);
        due("put(511, 1)", x.put(511, 1), true);
        due("put(7, 128)", x.put(7, 128), true);
        due("at(0)", x.at(0), 255);
        due("at(511)", x.at(511), 1);
        due("at(7)", x.at(7), 128);
        due("put(0, 0)", x.put(0, 0), true);
        due("at(0)", x.at(0), 0);
        for (int k : new int[] {-1, 512, Integer.MAX_VALUE, Integer.MIN_VALUE}) {
            due("put(" + k + ", 1)", x.put(k, 1), false);
        }
        for (int b : new int[] {-1, 256, Integer.MAX_VALUE, Integer.MIN_VALUE}) {
            due("put(7, " + b + ")", x.put(7, b), false);
        }
        due("at(7)", x.at(7), 128);
    }

    private static void at() {
        section = "17, at";
        // An object is promised for 512 calls, so each half of the buffer has one of its own.
        checkHalf(0);
        checkHalf(256);
        PageVault x = new PageVault(8);
        for (int k : new int[] {-1, 512, 513, Integer.MAX_VALUE, Integer.MIN_VALUE}) {
            due("at(" + k + ")", x.at(k), -1);
        }
    }

    private static void checkHalf(int from) {
        PageVault x = new PageVault(8);
        for (int k = from; k < from + 256; k++) {
            x.put(k, k * 7 & 255);
        }
        for (int k = from; k < from + 256; k++) {
            due("at(" + k + ")", x.at(k), k * 7 & 255);
        }
    }

    private static void free() {
        section = "18, free";
        PageVault x = withSize(32, 3 * REGION);
        due("a space takes one", x.free(), 31);
        x.load(0, 0, 1);
        due("a page with its region takes two", x.free(), 29);
        x.load(0, REGION - 1, 1);
        due("a page more takes one", x.free(), 28);
        x.load(0, REGION, 1);
        due("a page in the next region takes two", x.free(), 26);
        x.map(0, LAST_PAGE, 11);
        due("a page in the last region takes two", x.free(), 24);
        x.fork(0);
        due("a fork takes one and one for each region", x.free(), 20);
        x.store(1, 0, 1, 1);
        due("parting takes one", x.free(), 19);
        x.store(0, 0, 1, 1);
        due("the one that is left takes none", x.free(), 19);
        x.grow(1, -LIMIT);
        due("the parted page alone comes free", x.free(), 20);
        x.drop(1);
        due("the space and its regions come free", x.free(), 24);
        x.drop(0);
        due("all come free", x.free(), 32);
    }

    private static void flags() {
        section = "19, flags";
        PageVault x = withSpace(12);
        x.map(0, 4096, 5);
        due("at its first byte", x.flags(0, 4096), 5);
        due("within", x.flags(0, 5001), 5);
        due("at its last byte", x.flags(0, 8191), 5);
        due("before", x.flags(0, 4095), -1);
        due("behind", x.flags(0, 8192), -1);
        due("the same page of the next region", x.flags(0, REGION + 4096), -1);
        x.map(0, LAST_PAGE, 0);
        due("in the last page", x.flags(0, LIMIT - 1), 0);
        for (int at : WRONG_ADDRESSES) {
            due("flags(0, " + at + ")", x.flags(0, at), -1);
        }
        for (int space : WRONG_SPACES) {
            due("flags(" + space + ", 4096)", x.flags(space, 4096), -1);
        }
        x.grow(0, 0);
        int before = x.free();
        due("an unmade page below SIZE", x.flags(0, 0), -1);
        due("free() after flags", x.free(), before);
    }

    private static void owners() {
        section = "20, owners";
        PageVault x = withSize(32, 8192);
        x.store(0, 4096, 4, 1);
        due("owners(0, 4096)", x.owners(0, 4096), 1);
        due("owners(0, 8191)", x.owners(0, 8191), 1);
        due("owners(0, 0) of an unmade page", x.owners(0, 0), 0);
        for (int space : WRONG_SPACES) {
            due("owners(" + space + ", 4096)", x.owners(space, 4096), 0);
        }
        for (int at : WRONG_ADDRESSES) {
            due("owners(0, " + at + ")", x.owners(0, at), 0);
        }
        for (int k = 1; k < 15; k++) {
            due("fork", x.fork(k - 1), k);
            due("owners(0, 4096)", x.owners(0, 4096), k + 1);
            due("owners(k, 5000)", x.owners(k, 5000), k + 1);
        }
        due("free()", x.free(), 1);
        due("store(7, 4096, 4, 2)", x.store(7, 4096, 4, 2), true);
        due("owners(7, 4096)", x.owners(7, 4096), 1);
        due("owners(8, 4096)", x.owners(8, 4096), 14);
        x.grow(3, -4096);
        due("owners(3, 4096)", x.owners(3, 4096), 0);
        due("owners(8, 4096)", x.owners(8, 4096), 13);
        x.drop(8);
        due("owners(8, 4096)", x.owners(8, 4096), 0);
        due("owners(9, 4096)", x.owners(9, 4096), 12);
        due("fork(7)", x.fork(7), 8);
        due("owners(7, 4096)", x.owners(7, 4096), 2);
        due("owners(9, 4096)", x.owners(9, 4096), 12);
    }
}
