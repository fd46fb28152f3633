import java.util.Arrays;

/**
 * Address spaces of processes over frames of memory, with two-level page tables that lie in frames
 * themselves, pages made at the first touch, and spaces copied by sharing until one of them writes.
 */
public final class PageVault {
    public static final int NONE = -1;

    private static final int NO_FRAME = -2;

    private static final int LIMIT = 1073741824;
    private static final int LEAST_FRAMES = 8;
    private static final int MOST_FRAMES = 32;
    private static final int SPACES = 16;
    private static final int BUFFER = 512;

    private static final int PAGE_SHIFT = 12;
    private static final int PAGE = 1 << PAGE_SHIFT;
    private static final int REGION_SHIFT = 22;
    private static final int REGIONS = LIMIT >>> REGION_SHIFT;
    // A frame is held as ints: a table's entry is one, so a frame has as many as a region has pages.
    private static final int WORDS = 1024;

    private static final int READ = 1;
    private static final int WRITE = 2;
    private static final int RUN = 4;
    private static final int USER = 8;
    private static final int ALL_FLAGS = 15;
    private static final int FLAG_BITS = 4;

    private static final int FORBIDDEN = 1;
    private static final int CROOKED = 2;
    private static final int FULL = 3;

    private final Frames frames;
    private final Space[] spaces;
    private final int[] buffer;
    private int latestTrap;

    public PageVault(int frames) {
        this.frames = new Frames(Math.max(LEAST_FRAMES, Math.min(MOST_FRAMES, frames)));
        spaces = new Space[SPACES];
        for (int k = 0; k < SPACES; k++) {
            spaces[k] = new Space(this.frames);
        }
        buffer = new int[BUFFER];
    }

    public int make() {
        int number = leastUnused();
        if (number == NONE || frames.spare() < 1) {
            return NONE;
        }
        spaces[number].open(0);
        return number;
    }

    public boolean drop(int space) {
        Space found = find(space);
        if (found == null) {
            return false;
        }
        found.close();
        return true;
    }

    public int fork(int space) {
        Space parent = find(space);
        int number = leastUnused();
        if (parent == null || number == NONE || frames.spare() < parent.framesOfCopy()) {
            return NONE;
        }
        spaces[number].openAsCopy(parent);
        return number;
    }

    public int map(int space, int at, int flags) {
        Space found = find(space);
        if (found == null || !beginsPage(at) || !areFlags(flags) || found.entryAt(at) != 0) {
            return NONE;
        }
        if (found.addPage(at, flags) == NONE) {
            return NO_FRAME;
        }
        found.reach(at + PAGE);
        return 0;
    }

    public boolean protect(int space, int at, int flags) {
        Space found = find(space);
        if (found == null || !beginsPage(at) || !areFlags(flags)) {
            return false;
        }
        int entry = found.entryAt(at);
        if (entry == 0) {
            return false;
        }
        found.setEntry(at, entryOf(frameOf(entry), flags));
        return true;
    }

    public int grow(int space, int n) {
        Space found = find(space);
        if (found == null) {
            return NONE;
        }
        int before = found.length();
        // In a long, so that a sum above every int is still seen to be above LIMIT.
        long after = (long) before + n;
        if (after < 0 || after > LIMIT) {
            return NONE;
        }
        found.resize((int) after);
        return before;
    }

    public int size(int space) {
        Space found = find(space);
        return found == null ? NONE : found.length();
    }

    public int load(int space, int at, int n) {
        return number(space, at, n, READ);
    }

    public int fetch(int space, int at) {
        return number(space, at, 4, RUN);
    }

    public boolean store(int space, int at, int n, int v) {
        latestTrap = 0;
        if (!isStraight(at, n)) {
            trapped(CROOKED);
            return false;
        }
        return write(find(space), at, n, v);
    }

    public int trap() {
        return latestTrap;
    }

    public int out(int space, int at, int n) {
        latestTrap = 0;
        if (n < 0 || n > BUFFER) {
            return NONE;
        }
        Space found = find(space);
        for (int k = 0; k < n; k++) {
            if (!write(found, at + k, 1, buffer[k])) {
                return k;
            }
        }
        return n;
    }

    public int in(int space, int at, int n) {
        latestTrap = 0;
        if (n < 0 || n > BUFFER) {
            return NONE;
        }
        Space found = find(space);
        for (int k = 0; k < n; k++) {
            int b = readByte(found, at + k);
            if (b == NONE) {
                return k;
            }
            buffer[k] = b;
        }
        return n;
    }

    public int text(int space, int at, int n) {
        latestTrap = 0;
        if (n < 1 || n > BUFFER) {
            return NONE;
        }
        Space found = find(space);
        for (int k = 0; k < n; k++) {
            int b = readByte(found, at + k);
            if (b == NONE) {
                return NONE;
            }
            buffer[k] = b;
            if (b == 0) {
                return k;
            }
        }
        return NONE;
    }

    public boolean put(int k, int b) {
        if (k < 0 || k >= BUFFER || b < 0 || b > 255) {
            return false;
        }
        buffer[k] = b;
        return true;
    }

    public int at(int k) {
        return k < 0 || k >= BUFFER ? NONE : buffer[k];
    }

    public int free() {
        return frames.spare();
    }

    public int flags(int space, int at) {
        int entry = entryIn(space, at);
        return entry == 0 ? NONE : flagsOf(entry);
    }

    public int owners(int space, int at) {
        return frames.holders(frameOf(entryIn(space, at)));
    }

    /** The space of that number; null if there is none such. */
    private Space find(int space) {
        if (space < 0 || space >= SPACES || !spaces[space].isOpen()) {
            return null;
        }
        return spaces[space];
    }

    private int leastUnused() {
        for (int k = 0; k < SPACES; k++) {
            if (!spaces[k].isOpen()) {
                return k;
            }
        }
        return NONE;
    }

    private int entryIn(int space, int at) {
        Space found = find(space);
        return found == null || !isUsers(at) ? 0 : found.entryAt(at);
    }

    private int number(int space, int at, int n, int use) {
        latestTrap = 0;
        if (!isStraight(at, n)) {
            trapped(CROOKED);
            return 0;
        }
        int frame = touch(find(space), at, use);
        return frame == NONE ? 0 : frames.read(frame, at, n);
    }

    /** The byte at an address; NONE with a trap. */
    private int readByte(Space space, int at) {
        int frame = touch(space, at, READ);
        return frame == NONE ? NONE : frames.read(frame, at, 1);
    }

    /** False with a trap. */
    private boolean write(Space space, int at, int n, int v) {
        int frame = touch(space, at, WRITE);
        if (frame == NONE) {
            return false;
        }
        frames.write(frame, at, n, v);
        return true;
    }

    /** The frame that holds the address, ready for that use; NONE with a trap. */
    private int touch(Space space, int at, int use) {
        if (space == null || !isUsers(at)) {
            return trapped(FORBIDDEN);
        }
        int entry = space.entryAt(at);
        if (entry == 0) {
            return touchAbsent(space, at, use);
        }
        if ((entry & USER) == 0 || (entry & use) == 0) {
            return trapped(FORBIDDEN);
        }
        int frame = frameOf(entry);
        if (use == WRITE && frames.holders(frame) > 1) {
            return frameOrFull(space.partPage(at));
        }
        return frame;
    }

    private int touchAbsent(Space space, int at, int use) {
        if (at >= space.length() || use == RUN) {
            return trapped(FORBIDDEN);
        }
        return frameOrFull(space.addPage(at, READ + WRITE + USER));
    }

    private int frameOrFull(int frame) {
        return frame == NONE ? trapped(FULL) : frame;
    }

    private int trapped(int trap) {
        latestTrap = trap;
        return NONE;
    }

    private static boolean isUsers(int at) {
        return at >= 0 && at < LIMIT;
    }

    private static boolean beginsPage(int at) {
        return isUsers(at) && at % PAGE == 0;
    }

    private static boolean areFlags(int flags) {
        return flags >= 0 && flags <= ALL_FLAGS;
    }

    private static boolean isStraight(int at, int n) {
        return (n == 1 || n == 2 || n == 4) && at % n == 0;
    }

    // An entry is never 0, even for frame 0 without flags, so that a frame of zeros is an empty table.
    private static int entryOf(int frame, int flags) {
        return ((frame + 1) << FLAG_BITS) | flags;
    }

    private static int frameOf(int entry) {
        return (entry >>> FLAG_BITS) - 1;
    }

    private static int flagsOf(int entry) {
        return entry & ALL_FLAGS;
    }

    /**
     * The memory, and how many hold each frame. NONE is no frame: it reads as 0, and neither writing,
     * holding nor releasing it does anything, so that walks through tables need no tests of their own.
     */
    private static final class Frames {
        private final int[][] words;
        private final int[] holders;
        private int spare;

        Frames(int count) {
            words = new int[count][WORDS];
            holders = new int[count];
            spare = count;
        }

        int spare() {
            return spare;
        }

        /** A frame of zeros with one holder; NONE if none is free. */
        int take() {
            for (int frame = 0; frame < holders.length; frame++) {
                if (holders[frame] == 0) {
                    holders[frame] = 1;
                    spare--;
                    Arrays.fill(words[frame], 0);
                    return frame;
                }
            }
            return NONE;
        }

        void hold(int frame) {
            if (isFrame(frame)) {
                holders[frame]++;
            }
        }

        void release(int frame) {
            if (isFrame(frame) && holders[frame] > 0) {
                holders[frame]--;
                if (holders[frame] == 0) {
                    spare++;
                }
            }
        }

        int holders(int frame) {
            return isFrame(frame) ? holders[frame] : 0;
        }

        int word(int frame, int k) {
            return frame >= 0 && frame < words.length && k >= 0 && k < WORDS ? words[frame][k] : 0;
        }

        void setWord(int frame, int k, int value) {
            if (frame >= 0 && frame < words.length && k >= 0 && k < WORDS) {
                words[frame][k] = value;
            }
        }

        void copyWords(int from, int to) {
            if (isFrame(from) && isFrame(to)) {
                System.arraycopy(words[from], 0, words[to], 0, WORDS);
            }
        }

        /** The n bytes (1, 2 or 4) at an address that n divides: they never leave their word. */
        int read(int frame, int at, int n) {
            return (word(frame, wordOf(at)) >>> bitOf(at)) & mask(n);
        }

        void write(int frame, int at, int n, int v) {
            int kept = word(frame, wordOf(at)) & ~(mask(n) << bitOf(at));
            setWord(frame, wordOf(at), kept | ((v & mask(n)) << bitOf(at)));
        }

        private boolean isFrame(int frame) {
            return frame >= 0 && frame < holders.length;
        }

        private static int wordOf(int at) {
            return (at & (PAGE - 1)) >>> 2;
        }

        private static int bitOf(int at) {
            return (at & 3) * 8;
        }

        private static int mask(int n) {
            return -1 >>> (32 - 8 * n);
        }
    }

    /**
     * One address space. Its root frame has an entry for each region, which leads to the frame of the
     * region's table; that has an entry for each page. An entry of 0 leads nowhere.
     */
    private static final class Space {
        private final Frames frames;
        private int root;
        private int length;

        Space(Frames frames) {
            this.frames = frames;
            root = NONE;
        }

        boolean isOpen() {
            return root != NONE;
        }

        int length() {
            return length;
        }

        /** The caller has seen to it that a frame is free. */
        void open(int newLength) {
            root = frames.take();
            length = newLength;
        }

        void close() {
            removePagesFrom(0);
            for (int region = 0; region < REGIONS; region++) {
                frames.release(tableOf(region));
            }
            frames.release(root);
            root = NONE;
        }

        /** The caller has seen to it that framesOfCopy() of the parent are free. */
        void openAsCopy(Space parent) {
            open(parent.length);
            for (int region = 0; region < REGIONS; region++) {
                if (parent.hasPageIn(region)) {
                    shareRegion(parent, region);
                }
            }
        }

        int framesOfCopy() {
            int count = 1;
            for (int region = 0; region < REGIONS; region++) {
                if (hasPageIn(region)) {
                    count++;
                }
            }
            return count;
        }

        void reach(int end) {
            length = Math.max(length, end);
        }

        void resize(int newLength) {
            // No page begins behind the old length, so growth leaves nothing to remove.
            if (newLength < length) {
                removePagesFrom((newLength + PAGE - 1) >>> PAGE_SHIFT);
            }
            length = newLength;
        }

        int entryAt(int at) {
            return frames.word(tableOf(at >>> REGION_SHIFT), slotOf(at));
        }

        void setEntry(int at, int entry) {
            frames.setWord(tableOf(at >>> REGION_SHIFT), slotOf(at), entry);
        }

        /** The frame of a new page of zeros; NONE, changing nothing, if the frames do not suffice. */
        int addPage(int at, int flags) {
            int region = at >>> REGION_SHIFT;
            int table = tableOf(region);
            if (frames.spare() < (table == NONE ? 2 : 1)) {
                return NONE;
            }
            if (table == NONE) {
                table = addTable(region);
            }
            int frame = frames.take();
            frames.setWord(table, slotOf(at), entryOf(frame, flags));
            return frame;
        }

        /** The frame that a shared page has alone from now on; NONE, changing nothing, if none is free. */
        int partPage(int at) {
            int own = frames.take();
            if (own == NONE) {
                return NONE;
            }
            int entry = entryAt(at);
            frames.copyWords(frameOf(entry), own);
            frames.release(frameOf(entry));
            setEntry(at, entryOf(own, flagsOf(entry)));
            return own;
        }

        // The tables stay: a region keeps its frame for as long as the space is there.
        private void removePagesFrom(int firstPage) {
            int firstRegion = firstPage / WORDS;
            for (int region = firstRegion; region < REGIONS; region++) {
                int table = tableOf(region);
                int first = region == firstRegion ? firstPage % WORDS : 0;
                for (int slot = first; table != NONE && slot < WORDS; slot++) {
                    frames.release(frameOf(frames.word(table, slot)));
                    frames.setWord(table, slot, 0);
                }
            }
        }

        private void shareRegion(Space parent, int region) {
            int table = addTable(region);
            frames.copyWords(parent.tableOf(region), table);
            for (int slot = 0; slot < WORDS; slot++) {
                frames.hold(frameOf(frames.word(table, slot)));
            }
        }

        private int addTable(int region) {
            int table = frames.take();
            frames.setWord(root, region, entryOf(table, 0));
            return table;
        }

        private boolean hasPageIn(int region) {
            int table = tableOf(region);
            for (int slot = 0; table != NONE && slot < WORDS; slot++) {
                if (frames.word(table, slot) != 0) {
                    return true;
                }
            }
            return false;
        }

        private int tableOf(int region) {
            return frameOf(frames.word(root, region));
        }

        private static int slotOf(int at) {
            return (at >>> PAGE_SHIFT) & (WORDS - 1);
        }
    }
}
