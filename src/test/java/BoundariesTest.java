/**
 * One test for each sentence of the document that names a boundary case: too small, too large, empty,
 * full, a wrap-around, a refused call. A failure is told with the sentence that does not hold.
 * No object here gets more than the 512 calls that the document promises.
 */
public final class BoundariesTest {
    private static final int PAGE = 4096;
    private static final int REGION = 4194304;
    private static final int LIMIT = 1073741824;
    private static final int LAST_PAGE = LIMIT - PAGE;
    private static final int LAST_REGION = LIMIT - REGION;
    private static final int MIN = Integer.MIN_VALUE;
    private static final int MAX = Integer.MAX_VALUE;

    // All begin a page, so that nothing but their being no user's can refuse them; LIMIT, MIN and
    // MIN + LIMIT would be page 0 again if only their lower bits were looked at.
    private static final int[] NO_USERS = {-PAGE, LIMIT, LIMIT + PAGE, MAX - (PAGE - 1), MIN, MIN + LIMIT, MIN + PAGE};
    private static final int[] NO_SPACES = {-1, 16, 17, 32, MAX, MIN, MIN + 1, -16, 256, 65536};
    private static final int[] NO_FLAGS = {-1, 16, 17, 31, 256, MAX, MIN, -16, MIN + 11};
    private static final int[] NO_WIDTHS = {0, -1, -2, -4, 3, 5, 6, 7, 8, 16, 512, MAX, MIN};
    private static final int[] NO_BYTES = {-1, 256, 257, -255, -256, MAX, MIN};
    private static final int[] NO_PLACES = {-1, 512, 513, 1024, -512, MAX, MIN};
    private static final int[] NO_COUNTS = {-1, 513, 514, 1024, -512, MAX, MIN};

    private static int wrong;
    private static int sentences;
    private static String told;

    public static void main(String[] args) {
        terms();
        touching();
        newObject();
        spaces();
        pages();
        sizes();
        numbers();
        copies();
        texts();
        buffer();
        questions();
        System.out.println(sentences + " sentences, " + wrong + " answers not as due");
        if (wrong != 0) {
            System.exit(1);
        }
    }

    private static void terms() {
        of("Terms", "PAGES have 4,096 bytes; page number k of a space begins at address 4096 * k",
            BoundariesTest::pageHasItsBytes);
        of("Terms", "those from 0 to LIMIT - 1, LIMIT being 1073741824, can be a user's, all others none",
            BoundariesTest::usersAddresses);
        of("Terms", "A REGION is 1,024 pages that begin at a multiple of 1,024", BoundariesTest::regionHasItsPages);
        of("Terms", "FRAMES hold 4,096 bytes each", BoundariesTest::frameHoldsItsBytes);
        of("Terms", "the vault has as many as it was made with", BoundariesTest::asManyFrames);
        of("Terms", "SPACES are 0 .. 15", BoundariesTest::sixteenSpaces);
        of("Terms", "FLAGS: 1 it can be read, 2 written, 4 run, 8 it is the user's; sums of these",
            BoundariesTest::sumsOfFlags);
        of("Terms", "A space takes one frame for itself", BoundariesTest::spaceTakesOne);
        of("Terms", "and one more for each region in which a page of it has been there since it was made",
            BoundariesTest::regionTakesOne);
        of("Terms", "A page that is there takes one frame", BoundariesTest::pageTakesOne);
        of("Terms", "but pages that are SHARED take one all together: a page and all that forks made of it, or of these",
            BoundariesTest::sharedTakeOne);
        of("Terms", "without those that were parted since", BoundariesTest::withoutParted);
    }

    private static void touching() {
        of("Terms", "If it can't be a user's: trap 1", BoundariesTest::touchNoUsers);
        of("Terms", "If its page is not there: trap 1, if the address is not below the SIZE",
            BoundariesTest::touchNotBelowSize);
        of("Terms", "or it is touched for running", BoundariesTest::touchAbsentForRunning);
        of("Terms", "else the page is MADE: bytes 0, flags 11", BoundariesTest::touchMakes);
        of("Terms", "trap 3 if there is no frame free for it", BoundariesTest::touchWithoutFrame);
        of("Terms", "or none for its region, if it needs one", BoundariesTest::touchWithoutFrameForRegion);
        of("Terms", "If the page is there: trap 1, if its flags are without 8", BoundariesTest::touchNotTheUsers);
        of("Terms", "or without that for which it is touched", BoundariesTest::touchNotForThat);
        of("Terms", "If the page is there (SIZE is not asked)", BoundariesTest::touchThereBehindSize);
        of("Terms", "For writing, a shared page is PARTED first: it has a frame of its own then, with the same bytes",
            BoundariesTest::touchParts);
        of("Terms", "(PARTED) trap 3 if none is free", BoundariesTest::touchWithoutFrameToPart);
        of("Terms", "With a trap nothing changes (trap 1)", BoundariesTest::trapOneChangesNothing);
        of("Terms", "With a trap nothing changes (trap 2)", BoundariesTest::trapTwoChangesNothing);
        of("Terms", "With a trap nothing changes (trap 3)", BoundariesTest::trapThreeChangesNothing);
    }

    private static void newObject() {
        of("1", "As many frames as told", BoundariesTest::framesAsTold);
        of("1", "but 8 if that is less", BoundariesTest::framesTooFew);
        of("1", "and 32 if that is more", BoundariesTest::framesTooMany);
        of("1", "No spaces", BoundariesTest::newWithoutSpaces);
        of("1", "the buffer's 512 bytes are 0", BoundariesTest::newBuffer);
    }

    private static void spaces() {
        of("2", "A new space, SIZE 0, without pages", BoundariesTest::makeEmpty);
        of("2", "its number, the least that is free", BoundariesTest::makeLeast);
        of("2", "NONE if there are 16", BoundariesTest::makeOfSixteen);
        of("2", "or no frame is free", BoundariesTest::makeWithoutFrame);
        of("3", "A space is gone with all its pages: true", BoundariesTest::dropAll);
        of("3", "false if there is none such", BoundariesTest::dropNone);
        of("4", "A new space that has the SIZE, and the pages with flags and bytes, of another one",
            BoundariesTest::forkCopies);
        of("4", "(an empty space, forked)", BoundariesTest::forkEmpty);
        of("4", "all are shared by both", BoundariesTest::forkShares);
        of("4", "its number, as make() tells it", BoundariesTest::forkLeast);
        of("4", "NONE if there is none such", BoundariesTest::forkNone);
        of("4", "there are 16", BoundariesTest::forkOfSixteen);
        of("4", "or fewer frames are free than it takes (one,", BoundariesTest::forkWithoutFrame);
        of("4", "and one for each region in which the other one has a page that is there)",
            BoundariesTest::forkWithoutFramesForRegions);
        of("4", "(a region in which no page is there any more takes none)", BoundariesTest::forkOfEmptiedRegion);
        of("4", "nothing changes then", BoundariesTest::forkRefusedChangesNothing);
    }

    private static void pages() {
        of("5", "The page that begins at an address is there from now on, bytes 0", BoundariesTest::mapBytes);
        of("5", "with flags 0 .. 15", BoundariesTest::mapFlags);
        of("5", "SIZE becomes its end if it was less", BoundariesTest::mapSize);
        of("5", "NONE if there is no such space", BoundariesTest::mapNoSpace);
        of("5", "no page of a user's begins there", BoundariesTest::mapNoPageBegins);
        of("5", "it is there", BoundariesTest::mapThere);
        of("5", "or the flags are not so", BoundariesTest::mapNoFlags);
        of("5", "-2 if there is no frame for it", BoundariesTest::mapWithoutFrame);
        of("5", "or for its region", BoundariesTest::mapWithoutFrameForRegion);
        of("5", "(NONE and -2 change nothing)", BoundariesTest::mapRefusedChangesNothing);
        of("6", "The flags become 0 .. 15: true", BoundariesTest::protectFlags);
        of("6", "of a page which begins at an address", BoundariesTest::protectWithinPage);
        of("6", "false if it is not there", BoundariesTest::protectAbsent);
        of("6", "or they are not so", BoundariesTest::protectNoFlags);
    }

    private static void sizes() {
        of("7", "SIZE is n more: what it was", BoundariesTest::growMore);
        of("7", "(or less, if n is below 0)", BoundariesTest::growLess);
        of("7", "NONE, changing nothing, if there is no such space", BoundariesTest::growNoSpace);
        of("7", "or it would be below 0", BoundariesTest::growBelowZero);
        of("7", "or above LIMIT", BoundariesTest::growAboveLimit);
        of("7", "NONE, changing nothing", BoundariesTest::growRefusedChangesNothing);
        of("7", "Pages that begin at the new SIZE are not there any more", BoundariesTest::growRemovesAtSize);
        of("7", "or behind", BoundariesTest::growRemovesBehind);
        of("7", "(a page that begins before the new SIZE stays, all of it)", BoundariesTest::growKeepsBefore);
        of("8", "SIZE", BoundariesTest::sizeTold);
        of("8", "NONE if there is no such space", BoundariesTest::sizeNoSpace);
    }

    private static void numbers() {
        of("9", "the number that the n bytes (1, 2 or 4) from there are, the lowest first", BoundariesTest::loadLowestFirst);
        of("9", "without sign", BoundariesTest::loadWithoutSign);
        of("9", "trap 2, 0, if n is not so", BoundariesTest::loadNoWidth);
        of("9", "or the address is not divided by it", BoundariesTest::loadCrooked);
        of("9", "(before any other trap)", BoundariesTest::loadCrookedFirst);
        of("9", "0 with a trap", BoundariesTest::loadTrapped);
        of("9", "or without such a space (trap 1)", BoundariesTest::loadNoSpace);
        of("10", "Touches an address for running: as load() of 4 bytes", BoundariesTest::fetchWord);
        of("10", "trap 2 if the address is not divided by 4", BoundariesTest::fetchCrooked);
        of("10", "(as load(): 0 with a trap, or without such a space)", BoundariesTest::fetchTrapped);
        of("11", "the n lowest bytes of v are there then, the lowest first: true", BoundariesTest::storeLowestBytes);
        of("11", "false with a trap, as for load() (trap 2)", BoundariesTest::storeCrooked);
        of("11", "false with a trap, as for load() (traps 1 and 3)", BoundariesTest::storeTrapped);
        of("11", "false with a trap, as for load() (no such space)", BoundariesTest::storeNoSpace);
        of("12", "The trap of the latest load, fetch, store, out, in or text", BoundariesTest::trapOfLatest);
        of("12", "0 without one", BoundariesTest::trapWithoutOne);
    }

    private static void copies() {
        of("13", "The first n bytes of the buffer go to a space, from an address on, one after the other",
            BoundariesTest::outFirstBytes);
        of("13", "each touched for writing", BoundariesTest::outTouchesEach);
        of("13", "how many went before a trap", BoundariesTest::outBeforeTrap);
        of("13", "or all", BoundariesTest::outAll);
        of("13", "NONE (no trap) if n is not 0 .. 512, whatever the space", BoundariesTest::outNoCount);
        of("13", "with no such space 0 and trap 1, if n is above 0", BoundariesTest::outNoSpace);
        of("13", "(no address wraps around)", BoundariesTest::outWrapsNot);
        of("14", "n bytes of a space, from an address on, come into the buffer's first ones", BoundariesTest::inFirstBytes);
        of("14", "touched for reading", BoundariesTest::inTouchesEach);
        of("14", "how many", BoundariesTest::inHowMany);
        of("14", "otherwise as out(): NONE (no trap) if n is not 0 .. 512, whatever the space", BoundariesTest::inNoCount);
        of("14", "otherwise as out(): with no such space 0 and trap 1, if n is above 0", BoundariesTest::inNoSpace);
        of("14", "(no address wraps around)", BoundariesTest::inWrapsNot);
    }

    private static void texts() {
        of("15", "come into the buffer, up to one that is 0, which comes, too", BoundariesTest::textWithItsZero);
        of("15", "how many were before it", BoundariesTest::textHowMany);
        of("15", "each touched for reading", BoundariesTest::textTouchesEach);
        of("15", "NONE if there is a trap before it (the bytes before that came", BoundariesTest::textTrapBefore);
        of("15", "(a trap that would come behind it does not)", BoundariesTest::textTrapBehind);
        of("15", "trap 1 without such a space)", BoundariesTest::textNoSpace);
        of("15", "or none among n is 0 (they came)", BoundariesTest::textNoZero);
        of("15", "or n is not 1 .. 512 (no trap, whatever the space)", BoundariesTest::textNoCount);
        of("15", "(no address wraps around)", BoundariesTest::textWrapsNot);
    }

    private static void buffer() {
        of("16", "Byte k of the buffer becomes b: true", BoundariesTest::putEdges);
        of("16", "false if k is not 0 .. 511", BoundariesTest::putNoPlace);
        of("16", "or b not 0 .. 255", BoundariesTest::putNoByte);
        of("17", "Byte k of the buffer", BoundariesTest::atEdges);
        of("17", "NONE if there is none", BoundariesTest::atNoPlace);
    }

    private static void questions() {
        of("18", "How many frames are free (none)", BoundariesTest::freeNone);
        of("18", "How many frames are free (all)", BoundariesTest::freeAll);
        of("19", "The flags of the page that has an address", BoundariesTest::flagsOfPage);
        of("19", "NONE if it is not there", BoundariesTest::flagsAbsent);
        of("20", "How many pages share the frame of the page that has an address, itself too",
            BoundariesTest::ownersOfPage);
        of("20", "0 if it is not there", BoundariesTest::ownersAbsent);
    }

    // How a test is run, and what it says.

    private static void of(String promise, String sentence, Runnable test) {
        told = promise + " \"" + sentence + "\"";
        sentences++;
        try {
            test.run();
        } catch (RuntimeException | StackOverflowError thrown) {
            // No call of the class throws, so whatever came up is a fault of its own.
            wrong++;
            System.out.println(told + ": threw " + thrown);
        }
    }

    private static void due(String call, Object got, Object want) {
        if (!got.equals(want)) {
            wrong++;
            System.out.println(told + ": " + call + " answered " + got + ", due is " + want);
        }
    }

    /** The answer that is due, and the trap that is due with it. */
    private static void due(PageVault x, String call, Object got, Object want, int trap) {
        due(call, got, want);
        due("trap() after " + call, x.trap(), trap);
    }

    /** A refused call: the answer that is due, and all as it was before. */
    private static void refused(PageVault x, String before, String call, Object got, Object want) {
        due(call, got, want);
        due("what is there after " + call, state(x), before);
    }

    /** What can be asked without changing anything: frames, sizes, and some pages of three spaces. */
    private static String state(PageVault x) {
        StringBuilder all = new StringBuilder("free ").append(x.free());
        for (int space = 0; space < 3; space++) {
            all.append(", size ").append(x.size(space)).append(", pages");
            for (int at : new int[] {0, PAGE, REGION}) {
                all.append(' ').append(x.flags(space, at)).append('/').append(x.owners(space, at));
            }
        }
        return all.toString();
    }

    private static PageVault withSpace(int frames) {
        PageVault x = new PageVault(frames);
        due("make()", x.make(), 0);
        return x;
    }

    private static PageVault withSize(int frames, int size) {
        PageVault x = withSpace(frames);
        due("grow(0, " + size + ")", x.grow(0, size), 0);
        return x;
    }

    /** Makes spaces, which take a frame each, until only so many frames are free. */
    private static void leave(PageVault x, int frames) {
        for (int k = 0; k < 16 && x.free() > frames; k++) {
            x.make();
        }
        due("free() before the test", x.free(), frames);
    }

    private static void fill(PageVault x, int from, int count, int first) {
        for (int k = 0; k < count; k++) {
            due("put(" + (from + k) + ")", x.put(from + k, (first + k) & 255), true);
        }
    }

    private static void holds(PageVault x, int from, int count, int first) {
        for (int k = 0; k < count; k++) {
            due("at(" + (from + k) + ")", x.at(from + k), (first + k) & 255);
        }
    }

    // Terms: what takes frames.

    private static void pageHasItsBytes() {
        PageVault x = withSize(8, LIMIT);
        due("store(0, 4095, 1, 1)", x.store(0, 4095, 1, 1), true);
        due("flags(0, 0)", x.flags(0, 0), 11);
        due("flags(0, 4096)", x.flags(0, 4096), -1);
        due("store(0, 8192, 1, 3)", x.store(0, 8192, 1, 3), true);
        due("flags(0, 8191)", x.flags(0, 8191), -1);
        due("flags(0, 12287)", x.flags(0, 12287), 11);
        due("flags(0, 12288)", x.flags(0, 12288), -1);
        due("store(0, 4096, 1, 2)", x.store(0, 4096, 1, 2), true);
        due("load(0, 4095, 1)", x.load(0, 4095, 1), 1);
        due("load(0, 4096, 1)", x.load(0, 4096, 1), 2);
        due("load(0, 8192, 1)", x.load(0, 8192, 1), 3);
        due("load(0, 0, 1)", x.load(0, 0, 1), 0);
        due("load(0, 8191, 1)", x.load(0, 8191, 1), 0);
        due("free()", x.free(), 3);
    }

    private static void usersAddresses() {
        PageVault x = withSpace(8);
        due("map(0, 0, 15)", x.map(0, 0, 15), 0);
        due("map(0, LAST_PAGE, 15)", x.map(0, LAST_PAGE, 15), 0);
        due("size(0)", x.size(0), 1073741824);
        for (int at : new int[] {0, 1, 4095, LAST_PAGE, LIMIT - 2, LIMIT - 1}) {
            due(x, "store(0, " + at + ", 1, 7)", x.store(0, at, 1, 7), true, 0);
            due(x, "load(0, " + at + ", 1)", x.load(0, at, 1), 7, 0);
        }
        for (int at : new int[] {-1, -2, -4095, LIMIT, LIMIT + 1, MAX, MIN, MIN + 1, MIN + LIMIT, MIN + LIMIT + 1}) {
            due(x, "store(0, " + at + ", 1, 8)", x.store(0, at, 1, 8), false, 1);
            due(x, "load(0, " + at + ", 1)", x.load(0, at, 1), 0, 1);
        }
        due("load(0, 0, 1)", x.load(0, 0, 1), 7);
        due("load(0, LIMIT - 1, 1)", x.load(0, LIMIT - 1, 1), 7);
        for (int at : NO_USERS) {
            due("map(0, " + at + ", 15)", x.map(0, at, 15), -1);
            due("protect(0, " + at + ", 0)", x.protect(0, at, 0), false);
            due("flags(0, " + at + ")", x.flags(0, at), -1);
            due("owners(0, " + at + ")", x.owners(0, at), 0);
        }
    }

    private static void regionHasItsPages() {
        PageVault x = withSpace(16);
        due("map of page 1023", x.map(0, 1023 * PAGE, 11), 0);
        due("free()", x.free(), 13);
        due("map of page 1024, another region's first", x.map(0, 1024 * PAGE, 11), 0);
        due("free()", x.free(), 11);
        due("map of page 2047, the same region's last", x.map(0, 2047 * PAGE, 11), 0);
        due("free()", x.free(), 10);
        due("map of page 0, the first region's first", x.map(0, 0, 11), 0);
        due("free()", x.free(), 9);
        due("map of the last region's first page", x.map(0, LAST_REGION, 11), 0);
        due("free()", x.free(), 7);
        due("map of the last region's last page", x.map(0, LAST_PAGE, 11), 0);
        due("free()", x.free(), 6);
        due("map of the page before the last region", x.map(0, LAST_REGION - PAGE, 11), 0);
        due("free()", x.free(), 4);
    }

    private static void frameHoldsItsBytes() {
        // Each eighth of a page tells which one it is, so that no two can lie on the same bytes.
        PageVault x = withSize(8, 2 * PAGE);
        fill(x, 1, 30, 100);
        for (int part = 0; part < 8; part++) {
            x.put(0, part + 1);
            x.put(511, part + 11);
            due("out to part " + part, x.out(0, part * 512, 512), 512);
        }
        for (int part = 0; part < 8; part++) {
            due("in from part " + part, x.in(0, part * 512, 512), 512);
            due("at(0) of part " + part, x.at(0), part + 1);
            due("at(511) of part " + part, x.at(511), part + 11);
            holds(x, 1, 30, 100);
        }
        due("load behind", x.load(0, PAGE, 4), 0);
        for (int part = 0; part < 8; part++) {
            everyByteOfPart(part);
        }
    }

    private static void everyByteOfPart(int part) {
        for (int half = 0; half < 2; half++) {
            PageVault x = withSize(8, PAGE);
            int from = part * 512 + half * 256;
            // 251 is prime to every width, so a byte that comes from a neighbour's place is seen.
            for (int k = 0; k < 240; k++) {
                x.store(0, from + k, 1, (from + k) % 251);
            }
            due("store", x.store(0, from + 240, 4, -1), true);
            for (int k = 0; k < 240; k++) {
                due("load(0, " + (from + k) + ", 1)", x.load(0, from + k, 1), (from + k) % 251);
            }
        }
    }

    private static void asManyFrames() {
        for (int frames : new int[] {8, 13, 32}) {
            PageVault x = withSize(frames, LIMIT);
            for (int k = 0; k < frames - 2; k++) {
                due(x, "store in page " + k, x.store(0, k * PAGE + 4, 4, k + 1), true, 0);
            }
            due("free()", x.free(), 0);
            due(x, "store without a frame", x.store(0, frames * PAGE, 4, 1), false, 3);
            for (int k = 0; k < frames - 2; k++) {
                due("load of page " + k, x.load(0, k * PAGE + 4, 4), k + 1);
            }
        }
    }

    private static void sixteenSpaces() {
        PageVault x = new PageVault(32);
        for (int k = 0; k < 16; k++) {
            due("make()", x.make(), k);
            due("grow(" + k + ", 10)", x.grow(k, 10 + k), 0);
        }
        for (int k = 0; k < 16; k++) {
            due("size(" + k + ")", x.size(k), 10 + k);
        }
        for (int space : NO_SPACES) {
            due("size(" + space + ")", x.size(space), -1);
            due("grow(" + space + ", 1)", x.grow(space, 1), -1);
            due("map(" + space + ", 0, 11)", x.map(space, 0, 11), -1);
            due("drop(" + space + ")", x.drop(space), false);
        }
        due("free()", x.free(), 16);
        due("make() of number 16", x.make(), -1);
        due("fork() to number 16", x.fork(0), -1);
        due("size(16)", x.size(16), -1);
    }

    private static void sumsOfFlags() {
        PageVault x = withSpace(8);
        due("map(0, 0, 0)", x.map(0, 0, 0), 0);
        for (int flags = 0; flags <= 15; flags++) {
            due("protect(0, 0, " + flags + ")", x.protect(0, 0, flags), true);
            x.load(0, 0, 1);
            due("trap() of load with " + flags, x.trap(), flags % 2 == 1 && flags >= 8 ? 0 : 1);
            x.store(0, 0, 1, 1);
            due("trap() of store with " + flags, x.trap(), flags / 2 % 2 == 1 && flags >= 8 ? 0 : 1);
            x.fetch(0, 0);
            due("trap() of fetch with " + flags, x.trap(), flags / 4 % 2 == 1 && flags >= 8 ? 0 : 1);
        }
    }

    private static void spaceTakesOne() {
        PageVault x = new PageVault(20);
        for (int k = 1; k <= 16; k++) {
            due("make()", x.make(), k - 1);
            due("free()", x.free(), 20 - k);
        }
        due("grow(3, LIMIT) takes none", x.grow(3, LIMIT), 0);
        due("free()", x.free(), 4);
        due("drop(3)", x.drop(3), true);
        due("free()", x.free(), 5);
    }

    private static void regionTakesOne() {
        PageVault x = withSize(16, 3 * REGION);
        due("load(0, 0, 1)", x.load(0, 0, 1), 0);
        due("free() with a page and its region", x.free(), 13);
        due("load(0, REGION, 1)", x.load(0, REGION, 1), 0);
        due("free() with another one", x.free(), 11);
        due("grow to 0", x.grow(0, -3 * REGION), 3 * REGION);
        due("free() with the regions alone", x.free(), 13);
        due("map(0, PAGE, 11) in a region that had a page", x.map(0, PAGE, 11), 0);
        due("free()", x.free(), 12);
        due("map(0, 2 * REGION, 11) in one that had none", x.map(0, 2 * REGION, 11), 0);
        due("free()", x.free(), 10);
        due("drop(0)", x.drop(0), true);
        due("free() of all", x.free(), 16);
        due("make()", x.make(), 0);
        due("free()", x.free(), 15);
        due("map(0, 0, 11) in a space made anew", x.map(0, 0, 11), 0);
        due("free()", x.free(), 13);
    }

    private static void pageTakesOne() {
        PageVault x = withSize(16, 10 * PAGE);
        due("load(0, 0, 1)", x.load(0, 0, 1), 0);
        due("free()", x.free(), 13);
        due("load(0, PAGE, 1)", x.load(0, PAGE, 1), 0);
        due("free()", x.free(), 12);
        due("store(0, 3 * PAGE, 1, 1)", x.store(0, 3 * PAGE, 1, 1), true);
        due("free()", x.free(), 11);
        due("map(0, 4 * PAGE, 0)", x.map(0, 4 * PAGE, 0), 0);
        due("free()", x.free(), 10);
        due("load(0, PAGE + 5, 1) of a page that is there", x.load(0, PAGE + 5, 1), 0);
        due("free()", x.free(), 10);
        due("grow to 1", x.grow(0, 1 - 10 * PAGE), 10 * PAGE);
        due("free() with the first page", x.free(), 13);
    }

    private static void sharedTakeOne() {
        PageVault x = withSpace(32);
        due("map(0, 0, 11)", x.map(0, 0, 11), 0);
        due("map(0, PAGE, 11)", x.map(0, PAGE, 11), 0);
        due("free()", x.free(), 28);
        for (int k = 1; k < 14; k++) {
            due("fork of the latest", x.fork(k - 1), k);
            due("free()", x.free(), 28 - 2 * k);
        }
        due("owners(0, 0)", x.owners(0, 0), 14);
        due("owners(13, PAGE)", x.owners(13, PAGE), 14);
        for (int k = 0; k < 13; k++) {
            due("drop(" + k + ")", x.drop(k), true);
            due("free() after a drop", x.free(), 4 + 2 * k);
        }
        due("owners(13, 0)", x.owners(13, 0), 1);
        due("drop(13), the last owner", x.drop(13), true);
        due("free()", x.free(), 32);
    }

    private static void withoutParted() {
        PageVault x = withSpace(20);
        due("map(0, 0, 11)", x.map(0, 0, 11), 0);
        due("fork(0)", x.fork(0), 1);
        due("fork(0)", x.fork(0), 2);
        due("free()", x.free(), 13);
        due("store(1, 0, 1, 5)", x.store(1, 0, 1, 5), true);
        due("free()", x.free(), 12);
        due("owners(1, 0)", x.owners(1, 0), 1);
        due("owners(0, 0)", x.owners(0, 0), 2);
        due("fork(1) of the parted page", x.fork(1), 3);
        due("owners(3, 0)", x.owners(3, 0), 2);
        due("owners(2, 0)", x.owners(2, 0), 2);
        due("store(0, 0, 1, 6)", x.store(0, 0, 1, 6), true);
        due("free()", x.free(), 9);
        due("owners(2, 0), which is alone now", x.owners(2, 0), 1);
        due("store(2, 0, 1, 7) parts nothing", x.store(2, 0, 1, 7), true);
        due("free()", x.free(), 9);
        due("load(0, 0, 1)", x.load(0, 0, 1), 6);
        due("load(1, 0, 1)", x.load(1, 0, 1), 5);
        due("load(2, 0, 1)", x.load(2, 0, 1), 7);
        due("load(3, 0, 1)", x.load(3, 0, 1), 5);
    }

    // Terms: touching.

    private static void touchNoUsers() {
        PageVault x = withSpace(8);
        due("map(0, 0, 15)", x.map(0, 0, 15), 0);
        due("map(0, LAST_PAGE, 15)", x.map(0, LAST_PAGE, 15), 0);
        due("fill the first word", x.store(0, 0, 4, -1), true);
        for (int at : NO_USERS) {
            due(x, "load(0, " + at + ", 4)", x.load(0, at, 4), 0, 1);
            due(x, "store(0, " + at + ", 4, 5)", x.store(0, at, 4, 5), false, 1);
            due(x, "fetch(0, " + at + ")", x.fetch(0, at), 0, 1);
            due(x, "out(0, " + at + ", 1)", x.out(0, at, 1), 0, 1);
            due(x, "in(0, " + at + ", 1)", x.in(0, at, 1), 0, 1);
            due(x, "text(0, " + at + ", 1)", x.text(0, at, 1), -1, 1);
        }
        due("load(0, 0, 4)", x.load(0, 0, 4), -1);
        due("free()", x.free(), 3);
    }

    private static void touchNotBelowSize() {
        PageVault x = withSpace(8);
        due(x, "load(0, 0, 1) of an empty space", x.load(0, 0, 1), 0, 1);
        due(x, "store(0, 0, 1, 1) of an empty space", x.store(0, 0, 1, 1), false, 1);
        due("grow(0, 2 * PAGE)", x.grow(0, 2 * PAGE), 0);
        due(x, "load at SIZE, where a page begins", x.load(0, 2 * PAGE, 1), 0, 1);
        due(x, "store at SIZE, where a page begins", x.store(0, 2 * PAGE, 1, 1), false, 1);
        due(x, "load far behind SIZE", x.load(0, LIMIT - 1, 1), 0, 1);
        due("free()", x.free(), 7);
        due(x, "load before SIZE", x.load(0, 2 * PAGE - 1, 1), 0, 0);
        due("flags of the page made", x.flags(0, PAGE), 11);
        due("grow(0, 6)", x.grow(0, 6), 2 * PAGE);
        due(x, "load at SIZE, within a page that is not there", x.load(0, 2 * PAGE + 6, 1), 0, 1);
        due(x, "load behind SIZE, within that page", x.load(0, 2 * PAGE + 8, 4), 0, 1);
        due("flags of that page", x.flags(0, 2 * PAGE), -1);
        due(x, "store whose first byte is before SIZE", x.store(0, 2 * PAGE + 4, 4, 5), true, 0);
        due("flags of that page", x.flags(0, 2 * PAGE), 11);
        x = withSize(8, 1);
        due(x, "load(0, 1, 1) with SIZE 1", x.load(0, 1, 1), 0, 1);
        due(x, "load(0, 0, 1) with SIZE 1", x.load(0, 0, 1), 0, 0);
    }

    private static void touchAbsentForRunning() {
        PageVault x = withSize(8, LIMIT);
        for (int at : new int[] {0, 4, PAGE, REGION, LIMIT - 4}) {
            due(x, "fetch(0, " + at + ")", x.fetch(0, at), 0, 1);
            due("flags(0, " + at + ")", x.flags(0, at), -1);
        }
        due("free()", x.free(), 7);
        leave(x, 0);
        due(x, "fetch(0, 0) without a frame", x.fetch(0, 0), 0, 1);
    }

    private static void touchMakes() {
        PageVault x = withSize(8, 4 * PAGE);
        // Frames that were used before, so that the zeros must have been made.
        for (int k = 0; k < 4; k++) {
            x.store(0, k * PAGE, 4, -1);
            x.store(0, k * PAGE + 4092, 4, -1);
            x.protect(0, k * PAGE, 15);
        }
        due("grow to 0", x.grow(0, -4 * PAGE), 4 * PAGE);
        due("grow(0, 4 * PAGE)", x.grow(0, 4 * PAGE), 0);
        due(x, "load(0, 4092, 4)", x.load(0, 4092, 4), 0, 0);
        due("flags(0, 0)", x.flags(0, 0), 11);
        due(x, "store(0, PAGE, 1, 1)", x.store(0, PAGE, 1, 1), true, 0);
        due("flags(0, PAGE)", x.flags(0, PAGE), 11);
        due("load(0, PAGE, 4)", x.load(0, PAGE, 4), 1);
        due("load(0, PAGE + 4092, 4)", x.load(0, PAGE + 4092, 4), 0);
        due(x, "in(0, 2 * PAGE, 4)", x.in(0, 2 * PAGE, 4), 4, 0);
        due("flags(0, 2 * PAGE)", x.flags(0, 2 * PAGE), 11);
        due("at(0)", x.at(0), 0);
        due(x, "text(0, 3 * PAGE, 4)", x.text(0, 3 * PAGE, 4), 0, 0);
        due("flags(0, 3 * PAGE)", x.flags(0, 3 * PAGE), 11);
        due(x, "fetch of a page that was made", x.fetch(0, 0), 0, 1);
        // The tables of a dropped space come back as pages of zeros, too.
        due("drop(0)", x.drop(0), true);
        due("make()", x.make(), 0);
        due("grow(0, 6 * PAGE)", x.grow(0, 6 * PAGE), 0);
        for (int k = 0; k < 6; k++) {
            due("load of page " + k, x.load(0, k * PAGE, 4), 0);
            due("load in page " + k, x.load(0, k * PAGE + 8, 4), 0);
            due("flags of page " + k, x.flags(0, k * PAGE), 11);
        }
    }

    private static void touchWithoutFrame() {
        PageVault x = withSize(8, 9 * PAGE);
        for (int k = 0; k < 5; k++) {
            due(x, "load of page " + k, x.load(0, k * PAGE, 1), 0, 0);
        }
        due("free()", x.free(), 1);
        due(x, "load with the last frame", x.load(0, 5 * PAGE, 1), 0, 0);
        due("free()", x.free(), 0);
        due(x, "load without a frame", x.load(0, 6 * PAGE, 1), 0, 3);
        due(x, "store without a frame", x.store(0, 6 * PAGE, 1, 1), false, 3);
        due(x, "out without a frame", x.out(0, 6 * PAGE, 1), 0, 3);
        due(x, "in without a frame", x.in(0, 6 * PAGE, 1), 0, 3);
        due(x, "text without a frame", x.text(0, 6 * PAGE, 1), -1, 3);
        due(x, "load of a page that is there", x.load(0, 5 * PAGE, 1), 0, 0);
        due(x, "store in a page that is there", x.store(0, 5 * PAGE, 1, 1), true, 0);
        due(x, "trap 1 before trap 3: not below SIZE", x.load(0, 9 * PAGE, 1), 0, 1);
        due(x, "trap 1 before trap 3: no user's", x.load(0, LIMIT, 1), 0, 1);
        due("grow(0, -4 * PAGE)", x.grow(0, -4 * PAGE), 9 * PAGE);
        due("grow(0, 4 * PAGE)", x.grow(0, 4 * PAGE), 5 * PAGE);
        due(x, "load with the frame that came free", x.load(0, 6 * PAGE, 1), 0, 0);
    }

    private static void touchWithoutFrameForRegion() {
        PageVault x = withSize(8, LIMIT);
        due(x, "load with two frames and more", x.load(0, 0, 1), 0, 0);
        leave(x, 1);
        due(x, "load that needs two frames, with one", x.load(0, REGION, 1), 0, 3);
        due(x, "store that needs two frames, with one", x.store(0, REGION, 1, 1), false, 3);
        due("free()", x.free(), 1);
        due("flags(0, REGION)", x.flags(0, REGION), -1);
        due("drop(1)", x.drop(1), true);
        due(x, "load that needs two frames, with two", x.load(0, REGION, 1), 0, 0);
        due("free()", x.free(), 0);
        due(x, "load that needs two frames, with none", x.load(0, LIMIT - 1, 1), 0, 3);
        due("drop(2)", x.drop(2), true);
        due(x, "load that needs one frame, with one", x.load(0, REGION + PAGE, 1), 0, 0);
        due("free()", x.free(), 0);
        // A region that had a page needs no frame any more.
        due("grow to REGION", x.grow(0, REGION - LIMIT), LIMIT);
        due("grow to LIMIT", x.grow(0, LIMIT - REGION), REGION);
        due("free()", x.free(), 2);
        due("make()", x.make(), 1);
        due(x, "load in an emptied region, with one frame", x.load(0, REGION, 1), 0, 0);
        due("free()", x.free(), 0);
    }

    private static void touchNotTheUsers() {
        PageVault x = withSpace(8);
        due("map(0, 0, 7)", x.map(0, 0, 7), 0);
        due(x, "load", x.load(0, 0, 4), 0, 1);
        due(x, "store", x.store(0, 0, 4, 9), false, 1);
        due(x, "fetch", x.fetch(0, 0), 0, 1);
        due(x, "out", x.out(0, 0, 1), 0, 1);
        due(x, "in", x.in(0, 0, 1), 0, 1);
        due(x, "text", x.text(0, 0, 1), -1, 1);
        due("protect(0, 0, 15)", x.protect(0, 0, 15), true);
        due(x, "load of the user's", x.load(0, 0, 4), 0, 0);
        due(x, "store of the user's", x.store(0, 0, 4, 9), true, 0);
        due(x, "fetch of the user's", x.fetch(0, 0), 9, 0);
    }

    private static void touchNotForThat() {
        PageVault x = withSpace(8);
        due("map(0, 0, 14)", x.map(0, 0, 14), 0);
        due(x, "load without 1", x.load(0, 0, 4), 0, 1);
        due(x, "in without 1", x.in(0, 0, 1), 0, 1);
        due(x, "text without 1", x.text(0, 0, 1), -1, 1);
        due(x, "store without 1", x.store(0, 0, 4, 9), true, 0);
        due(x, "fetch without 1", x.fetch(0, 0), 9, 0);
        due("protect(0, 0, 13)", x.protect(0, 0, 13), true);
        due(x, "store without 2", x.store(0, 0, 4, 10), false, 1);
        due(x, "out without 2", x.out(0, 0, 1), 0, 1);
        due(x, "load without 2", x.load(0, 0, 4), 9, 0);
        due(x, "fetch without 2", x.fetch(0, 0), 9, 0);
        due("protect(0, 0, 11)", x.protect(0, 0, 11), true);
        due(x, "fetch without 4", x.fetch(0, 0), 0, 1);
        due(x, "load without 4", x.load(0, 0, 4), 9, 0);
        due(x, "store without 4", x.store(0, 0, 4, 11), true, 0);
        // Trap 1 comes before the parting, for which no frame would be free.
        due("protect(0, 0, 9)", x.protect(0, 0, 9), true);
        due("fork(0)", x.fork(0), 1);
        leave(x, 0);
        due(x, "store without 2, shared, without a frame", x.store(0, 0, 4, 12), false, 1);
    }

    private static void touchThereBehindSize() {
        PageVault x = withSize(8, PAGE);
        due("store(0, 100, 4, 77)", x.store(0, 100, 4, 77), true);
        due("protect(0, 0, 15)", x.protect(0, 0, 15), true);
        due("grow to 1", x.grow(0, 1 - PAGE), PAGE);
        due(x, "load behind SIZE", x.load(0, 100, 4), 77, 0);
        due(x, "store behind SIZE", x.store(0, 4092, 4, 78), true, 0);
        due(x, "fetch behind SIZE", x.fetch(0, 4092), 78, 0);
        due(x, "in over SIZE", x.in(0, 0, 512), 512, 0);
        due(x, "out over SIZE, to the page's end", x.out(0, 4000, 512), 96, 1);
        due("size(0)", x.size(0), 1);
    }

    private static void touchParts() {
        PageVault x = withSpace(12);
        due("map(0, 0, 15)", x.map(0, 0, 15), 0);
        due("store of the first word", x.store(0, 0, 4, 0x01020304), true);
        due("store of the last word", x.store(0, 4092, 4, 0x05060708), true);
        due("store in between", x.store(0, 2048, 4, -1), true);
        due("fork(0)", x.fork(0), 1);
        due("fork(1)", x.fork(1), 2);
        int before = x.free();
        due("load parts nothing", x.load(1, 0, 4), 0x01020304);
        due("fetch parts nothing", x.fetch(1, 0), 0x01020304);
        due("in parts nothing", x.in(1, 0, 4), 4);
        due("text parts nothing", x.text(1, 4, 4), 0);
        due("owners(1, 0)", x.owners(1, 0), 3);
        due("free()", x.free(), before);
        due(x, "store(1, 1, 1, 0xaa)", x.store(1, 1, 1, 0xaa), true, 0);
        due("free()", x.free(), before - 1);
        due("owners(1, 0)", x.owners(1, 0), 1);
        due("owners(0, 0)", x.owners(0, 0), 2);
        due("flags(1, 0)", x.flags(1, 0), 15);
        due("load(1, 0, 4)", x.load(1, 0, 4), 0x0102aa04);
        due("load(1, 4092, 4)", x.load(1, 4092, 4), 0x05060708);
        due("load(1, 2048, 4)", x.load(1, 2048, 4), -1);
        due("load(0, 0, 4)", x.load(0, 0, 4), 0x01020304);
        due("load(2, 0, 4)", x.load(2, 0, 4), 0x01020304);
        due(x, "store again parts nothing", x.store(1, 2, 1, 0xbb), true, 0);
        due("free()", x.free(), before - 1);
        due(x, "out parts", x.out(0, 2, 1), 1, 0);
        due("owners(2, 0)", x.owners(2, 0), 1);
        due("free()", x.free(), before - 2);
        due("load(2, 0, 4)", x.load(2, 0, 4), 0x01020304);
    }

    private static void touchWithoutFrameToPart() {
        PageVault x = withSpace(8);
        due("map(0, 0, 15)", x.map(0, 0, 15), 0);
        due("store(0, 0, 4, 7)", x.store(0, 0, 4, 7), true);
        due("fork(0)", x.fork(0), 1);
        leave(x, 0);
        due(x, "store in the parent", x.store(0, 0, 4, 8), false, 3);
        due(x, "store in the child", x.store(1, 0, 4, 8), false, 3);
        due(x, "out to the child", x.out(1, 0, 4), 0, 3);
        due(x, "load of a shared page takes no frame", x.load(1, 0, 4), 7, 0);
        due(x, "fetch of a shared page takes no frame", x.fetch(1, 0), 7, 0);
        due("owners(0, 0)", x.owners(0, 0), 2);
        due("drop(2)", x.drop(2), true);
        due("free()", x.free(), 1);
        due(x, "store with the last frame", x.store(1, 0, 4, 8), true, 0);
        due("free()", x.free(), 0);
        due(x, "store in the one that is alone takes no frame", x.store(0, 0, 4, 9), true, 0);
        due("load(0, 0, 4)", x.load(0, 0, 4), 9);
        due("load(1, 0, 4)", x.load(1, 0, 4), 8);
    }

    private static void trapOneChangesNothing() {
        PageVault x = withSize(12, 3 * PAGE);
        due("map(0, 0, 0), a guard page", x.map(0, 0, 0), 0);
        due("store(0, PAGE, 4, 5)", x.store(0, PAGE, 4, 5), true);
        due("protect(0, PAGE, 9)", x.protect(0, PAGE, 9), true);
        due("fork(0)", x.fork(0), 1);
        String before = state(x);
        refused(x, before, "load of the guard page", x.load(0, 0, 4), 0);
        refused(x, before, "store in the guard page", x.store(0, 0, 4, 1), false);
        refused(x, before, "store in a page to be read", x.store(1, PAGE, 4, 1), false);
        refused(x, before, "fetch of a page to be read", x.fetch(1, PAGE), 0);
        refused(x, before, "fetch of an absent page", x.fetch(0, 2 * PAGE), 0);
        refused(x, before, "load at SIZE", x.load(0, 3 * PAGE, 4), 0);
        refused(x, before, "load at LIMIT", x.load(0, LIMIT, 4), 0);
        refused(x, before, "store without a space", x.store(7, 0, 4, 1), false);
        due("load(0, PAGE, 4)", x.load(0, PAGE, 4), 5);
        due("load(1, PAGE, 4)", x.load(1, PAGE, 4), 5);
        due("protect(0, 0, 9)", x.protect(0, 0, 9), true);
        due("load(0, 0, 4)", x.load(0, 0, 4), 0);
    }

    private static void trapTwoChangesNothing() {
        PageVault x = withSize(12, 3 * PAGE);
        due("store(0, PAGE, 4, 5)", x.store(0, PAGE, 4, 5), true);
        due("fork(0)", x.fork(0), 1);
        String before = state(x);
        refused(x, before, "load that would make a page", x.load(0, 1, 2), 0);
        refused(x, before, "load of 3 bytes", x.load(0, 0, 3), 0);
        refused(x, before, "store that would make a page", x.store(0, 2, 4, 1), false);
        refused(x, before, "store that would part a page", x.store(0, PAGE + 1, 4, 1), false);
        refused(x, before, "store of 0 bytes", x.store(0, PAGE, 0, 1), false);
        refused(x, before, "store of 8 bytes", x.store(1, PAGE, 8, 1), false);
        refused(x, before, "fetch", x.fetch(0, PAGE + 2), 0);
        due("load(0, PAGE, 4)", x.load(0, PAGE, 4), 5);
        due("load(1, PAGE, 4)", x.load(1, PAGE, 4), 5);
    }

    private static void trapThreeChangesNothing() {
        PageVault x = withSize(8, LIMIT);
        due("store(0, PAGE, 4, 5)", x.store(0, PAGE, 4, 5), true);
        due("fork(0)", x.fork(0), 1);
        leave(x, 1);
        String before = state(x);
        refused(x, before, "load that needs two frames", x.load(0, REGION, 4), 0);
        refused(x, before, "store that needs two frames", x.store(1, REGION, 4, 1), false);
        refused(x, before, "out that needs two frames", x.out(1, REGION, 4), 0);
        leave(x, 0);
        before = state(x);
        refused(x, before, "load that needs one frame", x.load(0, 0, 4), 0);
        refused(x, before, "store that needs one frame", x.store(1, 0, 4, 1), false);
        refused(x, before, "store that would part", x.store(0, PAGE, 4, 1), false);
        refused(x, before, "out that would part", x.out(1, PAGE, 4), 0);
        due("load(0, PAGE, 4)", x.load(0, PAGE, 4), 5);
        due("load(1, PAGE, 4)", x.load(1, PAGE, 4), 5);
    }

    // Promise 1.

    private static void framesAsTold() {
        for (int frames = 8; frames <= 32; frames++) {
            due("free() of " + frames, new PageVault(frames).free(), frames);
        }
    }

    private static void framesTooFew() {
        for (int frames : new int[] {7, 6, 1, 0, -1, -8, -32, MIN, MIN + 1}) {
            PageVault x = new PageVault(frames);
            due("free() of " + frames, x.free(), 8);
            for (int k = 0; k < 8; k++) {
                due("make()", x.make(), k);
            }
            due("make() of a ninth", x.make(), -1);
        }
    }

    private static void framesTooMany() {
        for (int frames : new int[] {33, 34, 64, 1000, 1 << 30, MAX - 1, MAX}) {
            PageVault x = new PageVault(frames);
            due("free() of " + frames, x.free(), 32);
            x.make();
            for (int k = 0; k < 30; k++) {
                due("map of page " + k, x.map(0, k * PAGE, 11), 0);
            }
            due("map with no frame", x.map(0, 30 * PAGE, 11), -2);
        }
    }

    private static void newWithoutSpaces() {
        for (int frames : new int[] {8, 32}) {
            PageVault x = new PageVault(frames);
            for (int k = 0; k < 16; k++) {
                due("size(" + k + ")", x.size(k), -1);
                due("flags(" + k + ", 0)", x.flags(k, 0), -1);
                due("owners(" + k + ", 0)", x.owners(k, 0), 0);
                due("drop(" + k + ")", x.drop(k), false);
                due("fork(" + k + ")", x.fork(k), -1);
            }
        }
    }

    private static void newBuffer() {
        for (int from : new int[] {0, 256}) {
            PageVault x = new PageVault(8);
            for (int k = from; k < from + 256; k++) {
                due("at(" + k + ")", x.at(k), 0);
            }
        }
    }

    // Promises 2 to 4.

    private static void makeEmpty() {
        PageVault x = withSize(12, 2 * REGION);
        due("store(0, 0, 4, -1)", x.store(0, 0, 4, -1), true);
        due("store(0, REGION, 4, -1)", x.store(0, REGION, 4, -1), true);
        due("drop(0)", x.drop(0), true);
        due("make() of a number that was used", x.make(), 0);
        due("size(0)", x.size(0), 0);
        due("flags(0, 0)", x.flags(0, 0), -1);
        due("flags(0, REGION)", x.flags(0, REGION), -1);
        due("owners(0, 0)", x.owners(0, 0), 0);
        due("free()", x.free(), 11);
        due(x, "load(0, 0, 1)", x.load(0, 0, 1), 0, 1);
        // Each table that make() takes is empty, whatever its frame held.
        PageVault y = withSize(8, 6 * PAGE);
        for (int k = 0; k < 6; k++) {
            for (int at = 0; at < 64; at += 4) {
                y.store(0, k * PAGE + at, 4, 0x7b);
            }
        }
        due("drop(0)", y.drop(0), true);
        for (int k = 0; k < 8; k++) {
            due("make()", y.make(), k);
            due("flags(" + k + ", 0)", y.flags(k, 0), -1);
            due("flags(" + k + ", REGION + PAGE)", y.flags(k, REGION + PAGE), -1);
        }
    }

    private static void makeLeast() {
        PageVault x = new PageVault(32);
        for (int k = 0; k < 16; k++) {
            due("make()", x.make(), k);
        }
        for (int k : new int[] {15, 0, 7, 3}) {
            due("drop(" + k + ")", x.drop(k), true);
        }
        for (int k : new int[] {0, 3, 7, 15}) {
            due("make() of the least", x.make(), k);
        }
        due("drop(1)", x.drop(1), true);
        due("make()", x.make(), 1);
    }

    private static void makeOfSixteen() {
        PageVault x = new PageVault(32);
        for (int k = 0; k < 16; k++) {
            due("make()", x.make(), k);
        }
        String before = state(x);
        refused(x, before, "make() of a 17th", x.make(), -1);
        refused(x, before, "make() once more", x.make(), -1);
        due("drop(15)", x.drop(15), true);
        due("make() of the 16th", x.make(), 15);
        due("make() of a 17th", x.make(), -1);
    }

    private static void makeWithoutFrame() {
        PageVault x = new PageVault(8);
        for (int k = 0; k < 8; k++) {
            due("make()", x.make(), k);
        }
        String before = state(x);
        refused(x, before, "make() without a frame", x.make(), -1);
        due("size(8)", x.size(8), -1);
        due("drop(2)", x.drop(2), true);
        due("make() with one frame", x.make(), 2);
        x = withSize(8, 6 * PAGE);
        for (int k = 0; k < 6; k++) {
            x.load(0, k * PAGE, 1);
        }
        due("make() while pages have the frames", x.make(), -1);
        due("grow(0, -1) keeps them", x.grow(0, -1), 6 * PAGE);
        due("make()", x.make(), -1);
        due("grow(0, 1 - PAGE) frees one", x.grow(0, 1 - PAGE), 6 * PAGE - 1);
        due("make()", x.make(), 1);
    }

    private static void dropAll() {
        PageVault x = withSpace(12);
        due("drop(0) of an empty space", x.drop(0), true);
        due("free()", x.free(), 12);
        due("make()", x.make(), 0);
        for (int at : new int[] {0, REGION - PAGE, REGION, LAST_REGION, LAST_PAGE}) {
            due("map(0, " + at + ", 0)", x.map(0, at, 0), 0);
        }
        due("free()", x.free(), 3);
        due("drop(0)", x.drop(0), true);
        due("free()", x.free(), 12);
        due("size(0)", x.size(0), -1);
        for (int at : new int[] {0, REGION - PAGE, REGION, LAST_REGION, LAST_PAGE}) {
            due("flags(0, " + at + ")", x.flags(0, at), -1);
            due("owners(0, " + at + ")", x.owners(0, at), 0);
        }
        due(x, "load(0, 0, 1)", x.load(0, 0, 1), 0, 1);
        // What others share with it stays theirs.
        x = withSize(12, PAGE);
        due("store(0, 0, 4, 5)", x.store(0, 0, 4, 5), true);
        due("fork(0)", x.fork(0), 1);
        due("drop(0)", x.drop(0), true);
        due("load(1, 0, 4)", x.load(1, 0, 4), 5);
        due("owners(1, 0)", x.owners(1, 0), 1);
        due("free()", x.free(), 9);
    }

    private static void dropNone() {
        PageVault x = new PageVault(32);
        for (int k = 0; k < 16; k++) {
            due("drop(" + k + ") before make()", x.drop(k), false);
        }
        for (int k = 0; k < 16; k++) {
            x.make();
        }
        String before = state(x);
        for (int space : NO_SPACES) {
            refused(x, before, "drop(" + space + ")", x.drop(space), false);
        }
        due("drop(15)", x.drop(15), true);
        due("drop(15) again", x.drop(15), false);
        due("free()", x.free(), 17);
    }

    private static void forkCopies() {
        PageVault x = withSpace(20);
        due("map of the first page", x.map(0, 0, 11), 0);
        due("map of the last one", x.map(0, LAST_PAGE, 0), 0);
        due("map of its region's last one", x.map(0, REGION - PAGE, 15), 0);
        due("store", x.store(0, 4, 4, 0x01020304), true);
        due("store", x.store(0, REGION - 4, 4, -2), true);
        due("free()", x.free(), 14);
        due("fork(0)", x.fork(0), 1);
        due("free()", x.free(), 11);
        due("size(1)", x.size(1), LIMIT);
        due("flags(1, 0)", x.flags(1, 0), 11);
        due("flags(1, LIMIT - 1)", x.flags(1, LIMIT - 1), 0);
        due("flags(1, REGION - 1)", x.flags(1, REGION - 1), 15);
        due("flags(1, PAGE)", x.flags(1, PAGE), -1);
        due("load(1, 4, 4)", x.load(1, 4, 4), 0x01020304);
        due("fetch(1, REGION - 4)", x.fetch(1, REGION - 4), -2);
        due("size(0)", x.size(0), LIMIT);
        due("flags(0, 0)", x.flags(0, 0), 11);
        // SIZE is copied as it is, not as the pages would have it.
        due("grow(0, -5)", x.grow(0, -5), LIMIT);
        due("fork(0)", x.fork(0), 2);
        due("size(2)", x.size(2), LIMIT - 5);
        due("flags(2, LIMIT - 1)", x.flags(2, LIMIT - 1), 0);
    }

    private static void forkEmpty() {
        PageVault x = withSpace(8);
        due("fork(0)", x.fork(0), 1);
        due("free()", x.free(), 6);
        due("size(1)", x.size(1), 0);
        due("flags(1, 0)", x.flags(1, 0), -1);
        due("grow(0, 10)", x.grow(0, 10), 0);
        due("size(1)", x.size(1), 0);
        due("fork(0) with a SIZE, without pages", x.fork(0), 2);
        due("size(2)", x.size(2), 10);
        due("free()", x.free(), 5);
        due("load(2, 9, 1) makes a page of its own", x.load(2, 9, 1), 0);
        due("flags(0, 9)", x.flags(0, 9), -1);
        due("owners(2, 9)", x.owners(2, 9), 1);
    }

    private static void forkShares() {
        PageVault x = withSpace(16);
        for (int at : new int[] {0, REGION - PAGE, REGION, LAST_PAGE}) {
            due("map(0, " + at + ", 11)", x.map(0, at, 11), 0);
        }
        due("fork(0)", x.fork(0), 1);
        for (int at : new int[] {0, REGION - PAGE, REGION, LAST_PAGE}) {
            due("owners(0, " + at + ")", x.owners(0, at), 2);
            due("owners(1, " + at + ")", x.owners(1, at), 2);
        }
        due("owners(1, PAGE)", x.owners(1, PAGE), 0);
        due("store in the parent", x.store(0, 0, 4, 5), true);
        due("load of the child", x.load(1, 0, 4), 0);
        due("store in the child", x.store(1, REGION, 4, 6), true);
        due("load of the parent", x.load(0, REGION, 4), 0);
        due("protect in the child", x.protect(1, LAST_PAGE, 0), true);
        due("flags of the parent", x.flags(0, LAST_PAGE), 11);
        due("grow of the child", x.grow(1, -PAGE), LIMIT);
        due("owners of the parent's last page", x.owners(0, LAST_PAGE), 1);
        due("size of the parent", x.size(0), LIMIT);
    }

    private static void forkLeast() {
        PageVault x = new PageVault(32);
        for (int k = 0; k < 16; k++) {
            due("make()", x.make(), k);
        }
        for (int k : new int[] {15, 0, 7, 3}) {
            due("drop(" + k + ")", x.drop(k), true);
        }
        due("fork(14)", x.fork(14), 0);
        due("fork(0)", x.fork(0), 3);
        due("fork(1)", x.fork(1), 7);
        due("make()", x.make(), 15);
    }

    private static void forkNone() {
        PageVault x = new PageVault(32);
        for (int k = 0; k < 16; k++) {
            due("fork(" + k + ") before make()", x.fork(k), -1);
        }
        due("make()", x.make(), 0);
        String before = state(x);
        for (int space : NO_SPACES) {
            refused(x, before, "fork(" + space + ")", x.fork(space), -1);
        }
        refused(x, before, "fork(1)", x.fork(1), -1);
        refused(x, before, "fork(15)", x.fork(15), -1);
        due("drop(0)", x.drop(0), true);
        due("fork(0) of a space that is gone", x.fork(0), -1);
    }

    private static void forkOfSixteen() {
        PageVault x = withSpace(32);
        for (int k = 1; k < 16; k++) {
            due("fork(0)", x.fork(0), k);
        }
        String before = state(x);
        refused(x, before, "fork(0) of 16", x.fork(0), -1);
        refused(x, before, "fork(15) of 16", x.fork(15), -1);
        due("drop(9)", x.drop(9), true);
        due("fork(15) of 15", x.fork(15), 9);
    }

    private static void forkWithoutFrame() {
        PageVault x = withSpace(8);
        for (int k = 1; k < 8; k++) {
            due("fork of an empty space", x.fork(0), k);
        }
        due("free()", x.free(), 0);
        due("fork without a frame", x.fork(0), -1);
        due("drop(4)", x.drop(4), true);
        due("fork with one frame", x.fork(0), 4);
        due("free()", x.free(), 0);
    }

    private static void forkWithoutFramesForRegions() {
        PageVault x = withSpace(10);
        for (int at : new int[] {0, PAGE, REGION}) {
            due("map(0, " + at + ", 11)", x.map(0, at, 11), 0);
        }
        leave(x, 2);
        due("fork of two regions with two frames", x.fork(0), -1);
        due("free()", x.free(), 2);
        due("drop(1)", x.drop(1), true);
        due("fork of two regions with three frames", x.fork(0), 1);
        due("free()", x.free(), 0);
        due("owners(0, PAGE)", x.owners(0, PAGE), 2);
        due("owners(1, REGION)", x.owners(1, REGION), 2);
        x = withSpace(8);
        due("map(0, LAST_PAGE, 0)", x.map(0, LAST_PAGE, 0), 0);
        leave(x, 1);
        due("fork of one region with one frame", x.fork(0), -1);
        due("drop(2)", x.drop(2), true);
        due("fork of one region with two frames", x.fork(0), 2);
        due("free()", x.free(), 0);
    }

    private static void forkOfEmptiedRegion() {
        PageVault x = withSpace(8);
        due("map(0, 0, 11)", x.map(0, 0, 11), 0);
        due("map(0, REGION, 11)", x.map(0, REGION, 11), 0);
        due("grow to REGION", x.grow(0, -PAGE), REGION + PAGE);
        due("free()", x.free(), 4);
        due("fork of one region left", x.fork(0), 1);
        due("free()", x.free(), 2);
        due("drop(1)", x.drop(1), true);
        leave(x, 2);
        due("fork of one region left, with two frames", x.fork(0), 3);
        due("free()", x.free(), 0);
        due("drop(1)", x.drop(1), true);
        due("drop(2)", x.drop(2), true);
        due("map in the child takes the region's frame, too", x.map(3, REGION, 11), 0);
        due("free()", x.free(), 0);
        due("drop(3)", x.drop(3), true);
        leave(x, 1);
        due("map in the parent, which has the region's frame", x.map(0, REGION, 11), 0);
        due("free()", x.free(), 0);
    }

    private static void forkRefusedChangesNothing() {
        PageVault x = withSpace(8);
        due("map(0, 0, 11)", x.map(0, 0, 11), 0);
        due("map(0, REGION, 13)", x.map(0, REGION, 13), 0);
        for (int frames = 2; frames >= 0; frames--) {
            leave(x, frames);
            String before = state(x);
            refused(x, before, "fork with " + frames + " of 3 frames", x.fork(0), -1);
            due("size of the number that it would have had", x.size(4 - frames), -1);
        }
        due("store that parts nothing", x.store(0, 0, 4, 5), true);
        due("make()", x.make(), -1);
        due("drop(1)", x.drop(1), true);
        due("make() of the number that no fork took", x.make(), 1);
    }

    // Promises 5 and 6.

    private static void mapBytes() {
        PageVault x = withSpace(8);
        // All free frames are filled first, so that the zeros must have been made.
        for (int k = 0; k < 6; k++) {
            due("map of page " + k, x.map(0, k * PAGE, 11), 0);
            for (int at = 0; at < PAGE; at += 315 * 4) {
                x.store(0, k * PAGE + at, 4, -1);
            }
            x.store(0, k * PAGE + 4092, 4, -1);
        }
        due("grow to 0", x.grow(0, -6 * PAGE), 6 * PAGE);
        due("map of the last page", x.map(0, LAST_PAGE, 11), 0);
        for (int k = 0; k < 4; k++) {
            due("map of page " + k, x.map(0, k * PAGE, 11), 0);
        }
        due("free()", x.free(), 0);
        for (int page : new int[] {0, PAGE, 2 * PAGE, 3 * PAGE, LAST_PAGE}) {
            for (int at = 0; at < PAGE; at += 315 * 4) {
                due("load(0, " + (page + at) + ", 4)", x.load(0, page + at, 4), 0);
            }
            due("load at its end", x.load(0, page + 4092, 4), 0);
        }
    }

    private static void mapFlags() {
        PageVault x = withSpace(32);
        for (int flags = 0; flags <= 15; flags++) {
            due("map with flags " + flags, x.map(0, flags * PAGE, flags), 0);
            due("flags of its first byte", x.flags(0, flags * PAGE), flags);
            due("flags of its last byte", x.flags(0, flags * PAGE + 4095), flags);
        }
        due("free()", x.free(), 14);
    }

    private static void mapSize() {
        PageVault x = withSpace(20);
        due("map(0, 0, 11)", x.map(0, 0, 11), 0);
        due("size(0), which was 0", x.size(0), PAGE);
        due("grow(0, PAGE - 1)", x.grow(0, PAGE - 1), PAGE);
        due("map(0, PAGE, 11)", x.map(0, PAGE, 11), 0);
        due("size(0), which was one less", x.size(0), 2 * PAGE);
        due("grow(0, PAGE)", x.grow(0, PAGE), 2 * PAGE);
        due("map(0, 2 * PAGE, 11)", x.map(0, 2 * PAGE, 11), 0);
        due("size(0), which was its end", x.size(0), 3 * PAGE);
        due("grow(0, PAGE + 1)", x.grow(0, PAGE + 1), 3 * PAGE);
        due("map(0, 3 * PAGE, 11)", x.map(0, 3 * PAGE, 11), 0);
        due("size(0), which was one more", x.size(0), 4 * PAGE + 1);
        due("map of the last page", x.map(0, LAST_PAGE, 0), 0);
        due("size(0) is LIMIT", x.size(0), LIMIT);
        due("map(0, 5 * PAGE, 11)", x.map(0, 5 * PAGE, 11), 0);
        due("size(0) is LIMIT still", x.size(0), LIMIT);
    }

    private static void mapNoSpace() {
        PageVault x = new PageVault(32);
        due("map(0, 0, 11) before make()", x.map(0, 0, 11), -1);
        for (int k = 0; k < 15; k++) {
            due("make()", x.make(), k);
        }
        String before = state(x);
        for (int space : NO_SPACES) {
            refused(x, before, "map(" + space + ", 0, 11)", x.map(space, 0, 11), -1);
        }
        refused(x, before, "map(15, 0, 11)", x.map(15, 0, 11), -1);
        due("drop(3)", x.drop(3), true);
        due("map(3, 0, 11) of a space that is gone", x.map(3, 0, 11), -1);
    }

    private static void mapNoPageBegins() {
        PageVault x = withSpace(8);
        for (int at : NO_USERS) {
            due("map(0, " + at + ", 11)", x.map(0, at, 11), -1);
        }
        for (int at : new int[] {1, 2, 4, 512, 1024, 2048, 4095, 4097, 8191, REGION + 1, REGION - 1, LAST_PAGE + 1,
            LIMIT - 1, -1, -4095, -4097, LIMIT + 1, MAX, MIN + 1}) {
            due("map(0, " + at + ", 11)", x.map(0, at, 11), -1);
        }
        due("size(0)", x.size(0), 0);
        due("free()", x.free(), 7);
        due("map(0, 0, 11)", x.map(0, 0, 11), 0);
        due("map(0, LAST_PAGE, 11)", x.map(0, LAST_PAGE, 11), 0);
    }

    private static void mapThere() {
        PageVault x = withSize(12, 2 * PAGE);
        due("map(0, 0, 0)", x.map(0, 0, 0), 0);
        due("store(0, PAGE, 4, 5) makes the next one", x.store(0, PAGE, 4, 5), true);
        String before = state(x);
        refused(x, before, "map of a page without flags", x.map(0, 0, 15), -1);
        refused(x, before, "map of a page that a touch made", x.map(0, PAGE, 15), -1);
        due("load(0, PAGE, 4)", x.load(0, PAGE, 4), 5);
        due("fork(0)", x.fork(0), 1);
        due("map of a page that a fork made", x.map(1, 0, 15), -1);
        due("grow to 0", x.grow(0, -2 * PAGE), 2 * PAGE);
        due("map of a page that was there once", x.map(0, 0, 15), 0);
        due("flags(1, 0)", x.flags(1, 0), 0);
    }

    private static void mapNoFlags() {
        PageVault x = withSpace(8);
        String before = state(x);
        for (int flags : NO_FLAGS) {
            refused(x, before, "map(0, 0, " + flags + ")", x.map(0, 0, flags), -1);
        }
        due("map(0, 0, 15)", x.map(0, 0, 15), 0);
        due("map(0, PAGE, 0)", x.map(0, PAGE, 0), 0);
    }

    private static void mapWithoutFrame() {
        PageVault x = withSpace(8);
        for (int k = 0; k < 6; k++) {
            due("map with " + (6 - k) + " frames and more", x.map(0, k * PAGE, 11), 0);
        }
        due("free()", x.free(), 0);
        due("map without a frame", x.map(0, 6 * PAGE, 11), -2);
        due("flags(0, 6 * PAGE)", x.flags(0, 6 * PAGE), -1);
        due("NONE, with no such space", x.map(1, 6 * PAGE, 11), -1);
        due("NONE, where no page begins", x.map(0, 6 * PAGE + 1, 11), -1);
        due("NONE, where it is no user's", x.map(0, LIMIT, 11), -1);
        due("NONE, of a page that is there", x.map(0, 0, 11), -1);
        due("NONE, with flags that are not so", x.map(0, 6 * PAGE, 16), -1);
        due("grow(0, -1 - PAGE)", x.grow(0, -1 - PAGE), 6 * PAGE);
        due("map with one frame", x.map(0, 6 * PAGE, 11), 0);
        due("size(0)", x.size(0), 7 * PAGE);
    }

    private static void mapWithoutFrameForRegion() {
        PageVault x = withSpace(8);
        due("map(0, 0, 11)", x.map(0, 0, 11), 0);
        leave(x, 1);
        due("map of a new region with one frame", x.map(0, REGION, 11), -2);
        due("map of the last region with one frame", x.map(0, LAST_PAGE, 11), -2);
        due("free()", x.free(), 1);
        due("drop(1)", x.drop(1), true);
        due("map of a new region with two frames", x.map(0, REGION, 11), 0);
        due("free()", x.free(), 0);
        due("map of a new region without a frame", x.map(0, LAST_PAGE, 11), -2);
        due("drop(2)", x.drop(2), true);
        due("map of that region with one frame", x.map(0, REGION + PAGE, 11), 0);
        due("free()", x.free(), 0);
        // A space's first page needs a frame for its region, too.
        x = withSpace(8);
        leave(x, 1);
        due("map of the first page with one frame", x.map(0, 0, 11), -2);
        due("drop(1)", x.drop(1), true);
        due("map of the first page with two frames", x.map(0, 0, 11), 0);
    }

    private static void mapRefusedChangesNothing() {
        PageVault x = withSpace(8);
        due("map(0, 0, 9)", x.map(0, 0, 9), 0);
        leave(x, 1);
        String before = state(x);
        refused(x, before, "map without a frame for its region", x.map(0, REGION, 11), -2);
        refused(x, before, "map of a page that is there", x.map(0, 0, 11), -1);
        refused(x, before, "map where no page begins", x.map(0, PAGE + 4, 11), -1);
        refused(x, before, "map with flags that are not so", x.map(0, PAGE, 16), -1);
        leave(x, 0);
        before = state(x);
        refused(x, before, "map without a frame", x.map(0, PAGE, 11), -2);
        refused(x, before, "map without a frame for either", x.map(0, REGION, 11), -2);
    }

    private static void protectFlags() {
        PageVault x = withSpace(8);
        due("map(0, 0, 15)", x.map(0, 0, 15), 0);
        due("map(0, LAST_PAGE, 15)", x.map(0, LAST_PAGE, 15), 0);
        for (int flags = 0; flags <= 15; flags++) {
            due("protect(0, 0, " + flags + ")", x.protect(0, 0, flags), true);
            due("flags(0, 0)", x.flags(0, 0), flags);
            due("flags(0, LAST_PAGE)", x.flags(0, LAST_PAGE), 15);
        }
        due("protect of the last page", x.protect(0, LAST_PAGE, 0), true);
        due("flags(0, LIMIT - 1)", x.flags(0, LIMIT - 1), 0);
        due("free()", x.free(), 3);
        // A shared page stays shared, and the other one's flags stay its own.
        due("fork(0)", x.fork(0), 1);
        due("protect(1, 0, 3)", x.protect(1, 0, 3), true);
        due("flags(0, 0)", x.flags(0, 0), 15);
        due("owners(0, 0)", x.owners(0, 0), 2);
        due("free()", x.free(), 0);
        due("protect without a frame", x.protect(0, 0, 0), true);
        due("flags(1, 0)", x.flags(1, 0), 3);
    }

    private static void protectWithinPage() {
        PageVault x = withSpace(8);
        due("map(0, PAGE, 11)", x.map(0, PAGE, 11), 0);
        for (int at : new int[] {PAGE + 1, PAGE + 4, PAGE + 2048, 2 * PAGE - 4, 2 * PAGE - 1}) {
            due("protect(0, " + at + ", 15)", x.protect(0, at, 15), false);
            due("flags(0, PAGE)", x.flags(0, PAGE), 11);
        }
        due("protect(0, PAGE, 15)", x.protect(0, PAGE, 15), true);
        due("flags(0, PAGE)", x.flags(0, PAGE), 15);
    }

    private static void protectAbsent() {
        PageVault x = withSize(8, LIMIT);
        due("store(0, PAGE, 4, 5)", x.store(0, PAGE, 4, 5), true);
        String before = state(x);
        for (int at : NO_USERS) {
            refused(x, before, "protect(0, " + at + ", 15)", x.protect(0, at, 15), false);
        }
        for (int at : new int[] {0, 2 * PAGE, REGION + PAGE, LAST_PAGE}) {
            refused(x, before, "protect(0, " + at + ", 15)", x.protect(0, at, 15), false);
        }
        due("grow to PAGE", x.grow(0, PAGE - LIMIT), LIMIT);
        due("protect of a page that was there once", x.protect(0, PAGE, 15), false);
        PageVault y = withSpace(8);
        due("map(0, 0, 11)", y.map(0, 0, 11), 0);
        for (int space : NO_SPACES) {
            due("protect(" + space + ", 0, 15)", y.protect(space, 0, 15), false);
        }
        due("protect(1, 0, 15)", y.protect(1, 0, 15), false);
        due("flags(0, 0)", y.flags(0, 0), 11);
    }

    private static void protectNoFlags() {
        PageVault x = withSpace(8);
        due("map(0, 0, 11)", x.map(0, 0, 11), 0);
        String before = state(x);
        for (int flags : NO_FLAGS) {
            refused(x, before, "protect(0, 0, " + flags + ")", x.protect(0, 0, flags), false);
        }
        due("load(0, 0, 1)", x.load(0, 0, 1), 0);
        due("protect(0, 0, 15)", x.protect(0, 0, 15), true);
        due("protect(0, 0, 0)", x.protect(0, 0, 0), true);
    }

    // Promises 7 and 8.

    private static void growMore() {
        PageVault x = withSpace(8);
        due("grow(0, 0) of an empty space", x.grow(0, 0), 0);
        due("size(0)", x.size(0), 0);
        due("grow(0, 1)", x.grow(0, 1), 0);
        due("grow(0, 0)", x.grow(0, 0), 1);
        due("grow(0, PAGE)", x.grow(0, PAGE), 1);
        due("size(0)", x.size(0), PAGE + 1);
        due("grow to LIMIT - 1", x.grow(0, LIMIT - PAGE - 2), PAGE + 1);
        due("size(0)", x.size(0), LIMIT - 1);
        due("grow to LIMIT", x.grow(0, 1), LIMIT - 1);
        due("size(0)", x.size(0), LIMIT);
        due("grow(0, 0) at LIMIT", x.grow(0, 0), LIMIT);
        due("free(): SIZE takes no frame", x.free(), 7);
        due("store of the last byte", x.store(0, LIMIT - 1, 1, 9), true);
        due("grow(0, 0) keeps it", x.grow(0, 0), LIMIT);
        due("load of the last byte", x.load(0, LIMIT - 1, 1), 9);
        x = withSpace(8);
        due("grow(0, LIMIT) from 0", x.grow(0, LIMIT), 0);
        due("size(0)", x.size(0), LIMIT);
    }

    private static void growLess() {
        PageVault x = withSize(8, LIMIT);
        due("grow(0, -1)", x.grow(0, -1), LIMIT);
        due("size(0)", x.size(0), LIMIT - 1);
        due("grow(0, -PAGE)", x.grow(0, -PAGE), LIMIT - 1);
        due("size(0)", x.size(0), LIMIT - 1 - PAGE);
        due("grow to 1", x.grow(0, PAGE + 2 - LIMIT), LIMIT - 1 - PAGE);
        due("size(0)", x.size(0), 1);
        due("grow to 0", x.grow(0, -1), 1);
        due("size(0)", x.size(0), 0);
        x = withSize(8, LIMIT);
        due("grow(0, -LIMIT)", x.grow(0, -LIMIT), LIMIT);
        due("size(0)", x.size(0), 0);
    }

    private static void growNoSpace() {
        PageVault x = new PageVault(8);
        due("grow(0, 0) before make()", x.grow(0, 0), -1);
        due("make()", x.make(), 0);
        due("make()", x.make(), 1);
        due("drop(1)", x.drop(1), true);
        String before = state(x);
        for (int space : NO_SPACES) {
            refused(x, before, "grow(" + space + ", 1)", x.grow(space, 1), -1);
        }
        refused(x, before, "grow(1, 1) of a space that is gone", x.grow(1, 1), -1);
        refused(x, before, "grow(1, 0)", x.grow(1, 0), -1);
        due("make()", x.make(), 1);
        due("size(1)", x.size(1), 0);
    }

    private static void growBelowZero() {
        PageVault x = withSpace(8);
        for (int n : new int[] {-1, -2, -PAGE, -LIMIT, MIN, MIN + 1}) {
            due("grow(0, " + n + ") from 0", x.grow(0, n), -1);
        }
        due("size(0)", x.size(0), 0);
        due("grow(0, 100)", x.grow(0, 100), 0);
        for (int n : new int[] {-101, -102, -LIMIT, MIN, MIN + 1, MIN + 100}) {
            due("grow(0, " + n + ") from 100", x.grow(0, n), -1);
        }
        due("size(0)", x.size(0), 100);
        due("grow(0, -100)", x.grow(0, -100), 100);
        due("grow(0, LIMIT)", x.grow(0, LIMIT), 0);
        for (int n : new int[] {-LIMIT - 1, MIN, MIN + 1, MIN + LIMIT - 1}) {
            due("grow(0, " + n + ") from LIMIT", x.grow(0, n), -1);
        }
        due("size(0)", x.size(0), LIMIT);
    }

    private static void growAboveLimit() {
        PageVault x = withSpace(8);
        for (int n : new int[] {LIMIT + 1, LIMIT + PAGE, MAX - 1, MAX}) {
            due("grow(0, " + n + ") from 0", x.grow(0, n), -1);
        }
        due("size(0)", x.size(0), 0);
        due("grow(0, 100)", x.grow(0, 100), 0);
        for (int n : new int[] {LIMIT - 99, LIMIT, MAX - 100, MAX - 99, MAX}) {
            due("grow(0, " + n + ") from 100", x.grow(0, n), -1);
        }
        due("size(0)", x.size(0), 100);
        due("grow to LIMIT", x.grow(0, LIMIT - 100), 100);
        // From here on the sum can leave the ints and come round from below.
        for (int n : new int[] {1, 2, PAGE, LIMIT - 1, LIMIT, LIMIT + 1, MAX - 1, MAX}) {
            due("grow(0, " + n + ") from LIMIT", x.grow(0, n), -1);
        }
        due("size(0)", x.size(0), LIMIT);
    }

    private static void growRefusedChangesNothing() {
        PageVault x = withSize(12, 2 * PAGE);
        due("store(0, 0, 4, 5)", x.store(0, 0, 4, 5), true);
        due("store(0, PAGE, 4, 6)", x.store(0, PAGE, 4, 6), true);
        due("fork(0)", x.fork(0), 1);
        String before = state(x);
        for (int n : new int[] {-2 * PAGE - 1, MIN, LIMIT, MAX}) {
            refused(x, before, "grow(0, " + n + ")", x.grow(0, n), -1);
        }
        due("load(0, 0, 4)", x.load(0, 0, 4), 5);
        due("load(0, PAGE, 4)", x.load(0, PAGE, 4), 6);
    }

    private static void growRemovesAtSize() {
        PageVault x = withSize(12, 3 * PAGE);
        for (int k = 0; k < 3; k++) {
            due("store in page " + k, x.store(0, k * PAGE, 4, k + 1), true);
        }
        due("grow to 2 * PAGE + 1", x.grow(0, 1 - PAGE), 3 * PAGE);
        due("flags(0, 2 * PAGE), which begins before", x.flags(0, 2 * PAGE), 11);
        due("grow to 2 * PAGE", x.grow(0, -1), 2 * PAGE + 1);
        due("flags(0, 2 * PAGE)", x.flags(0, 2 * PAGE), -1);
        due("flags(0, PAGE)", x.flags(0, PAGE), 11);
        due("free()", x.free(), 8);
        due(x, "load(0, 2 * PAGE, 4)", x.load(0, 2 * PAGE, 4), 0, 1);
        due("grow(0, PAGE)", x.grow(0, PAGE), 2 * PAGE);
        due(x, "load(0, 2 * PAGE, 4) of a page made anew", x.load(0, 2 * PAGE, 4), 0, 0);
        due("grow to 0", x.grow(0, -3 * PAGE), 3 * PAGE);
        due("flags(0, 0)", x.flags(0, 0), -1);
        due("free()", x.free(), 10);
        // At the seam of two regions.
        due("map(0, REGION, 11)", x.map(0, REGION, 11), 0);
        due("map(0, REGION - PAGE, 11)", x.map(0, REGION - PAGE, 11), 0);
        due("grow to REGION", x.grow(0, -PAGE), REGION + PAGE);
        due("flags(0, REGION)", x.flags(0, REGION), -1);
        due("flags(0, REGION - PAGE)", x.flags(0, REGION - PAGE), 11);
        due("map of the last page", x.map(0, LAST_PAGE, 11), 0);
        due("grow to LAST_PAGE", x.grow(0, -PAGE), LIMIT);
        due("flags(0, LAST_PAGE)", x.flags(0, LAST_PAGE), -1);
    }

    private static void growRemovesBehind() {
        PageVault x = withSpace(16);
        for (int at : new int[] {0, PAGE, 2 * PAGE, REGION - PAGE, REGION, LAST_PAGE}) {
            due("map(0, " + at + ", 0)", x.map(0, at, 0), 0);
        }
        due("free()", x.free(), 6);
        due("grow to PAGE - 1", x.grow(0, PAGE - 1 - LIMIT), LIMIT);
        due("flags(0, 0)", x.flags(0, 0), 0);
        for (int at : new int[] {PAGE, 2 * PAGE, REGION - PAGE, REGION, LAST_PAGE}) {
            due("flags(0, " + at + ")", x.flags(0, at), -1);
            due("owners(0, " + at + ")", x.owners(0, at), 0);
        }
        due("free(), the regions' frames staying", x.free(), 11);
        // Of shared pages those of the other space stay.
        x = withSize(16, 2 * PAGE);
        due("store(0, PAGE, 4, 5)", x.store(0, PAGE, 4, 5), true);
        due("fork(0)", x.fork(0), 1);
        due("grow(0, -2 * PAGE)", x.grow(0, -2 * PAGE), 2 * PAGE);
        due("flags(0, PAGE)", x.flags(0, PAGE), -1);
        due("owners(1, PAGE)", x.owners(1, PAGE), 1);
        due("load(1, PAGE, 4)", x.load(1, PAGE, 4), 5);
        due("size(1)", x.size(1), 2 * PAGE);
        due("free()", x.free(), 11);
    }

    private static void growKeepsBefore() {
        PageVault x = withSize(8, 2 * PAGE);
        due("store(0, 2 * PAGE - 4, 4, 5)", x.store(0, 2 * PAGE - 4, 4, 5), true);
        due("grow to PAGE + 1", x.grow(0, 1 - PAGE), 2 * PAGE);
        due("flags(0, PAGE)", x.flags(0, PAGE), 11);
        due("grow(0, PAGE - 1)", x.grow(0, PAGE - 1), PAGE + 1);
        due("load of what was behind SIZE", x.load(0, 2 * PAGE - 4, 4), 5);
        due("map of the last page", x.map(0, LAST_PAGE, 11), 0);
        due("grow(0, 1 - PAGE)", x.grow(0, 1 - PAGE), LIMIT);
        due("flags(0, LIMIT - 1)", x.flags(0, LIMIT - 1), 11);
        due("flags(0, PAGE)", x.flags(0, PAGE), 11);
    }

    private static void sizeTold() {
        PageVault x = withSpace(8);
        due("size(0) of an empty space", x.size(0), 0);
        due("grow(0, LIMIT)", x.grow(0, LIMIT), 0);
        due("size(0) at LIMIT", x.size(0), LIMIT);
        due("load(0, 0, 1)", x.load(0, 0, 1), 0);
        due("size(0) after a page was made", x.size(0), LIMIT);
        due("make()", x.make(), 1);
        due("size(1)", x.size(1), 0);
        due("free()", x.free(), 4);
    }

    private static void sizeNoSpace() {
        PageVault x = new PageVault(32);
        due("size(0) before make()", x.size(0), -1);
        for (int k = 0; k < 16; k++) {
            due("make()", x.make(), k);
        }
        for (int space : NO_SPACES) {
            due("size(" + space + ")", x.size(space), -1);
        }
        due("size(15)", x.size(15), 0);
        due("drop(15)", x.drop(15), true);
        due("size(15) of a space that is gone", x.size(15), -1);
    }

    // Promises 9 to 12.

    private static void loadLowestFirst() {
        PageVault x = withSize(8, PAGE);
        for (int k = 0; k < 8; k++) {
            x.store(0, 4088 + k, 1, 17 + k);
        }
        for (int k = 0; k < 8; k++) {
            due(x, "load of byte " + k, x.load(0, 4088 + k, 1), 17 + k, 0);
        }
        due(x, "load(0, 4088, 2)", x.load(0, 4088, 2), 0x1211, 0);
        due(x, "load(0, 4090, 2)", x.load(0, 4090, 2), 0x1413, 0);
        due(x, "load(0, 4094, 2) at the page's end", x.load(0, 4094, 2), 0x1817, 0);
        due(x, "load(0, 4088, 4)", x.load(0, 4088, 4), 0x14131211, 0);
        due(x, "load(0, 4092, 4) at the page's end", x.load(0, 4092, 4), 0x18171615, 0);
        due(x, "load(0, 0, 4) of zeros", x.load(0, 0, 4), 0, 0);
    }

    private static void loadWithoutSign() {
        PageVault x = withSize(8, PAGE);
        due("store(0, 0, 4, -1)", x.store(0, 0, 4, -1), true);
        for (int k = 0; k < 4; k++) {
            due("load(0, " + k + ", 1)", x.load(0, k, 1), 255);
        }
        due("load(0, 0, 2)", x.load(0, 0, 2), 65535);
        due("load(0, 2, 2)", x.load(0, 2, 2), 65535);
        due("load(0, 0, 4), as an int has it", x.load(0, 0, 4), -1);
        due("store(0, 4, 4, 0x80008080)", x.store(0, 4, 4, 0x80008080), true);
        due("load(0, 4, 1)", x.load(0, 4, 1), 128);
        due("load(0, 7, 1)", x.load(0, 7, 1), 128);
        due("load(0, 4, 2)", x.load(0, 4, 2), 0x8080);
        due("load(0, 6, 2)", x.load(0, 6, 2), 0x8000);
        due("load(0, 4, 4)", x.load(0, 4, 4), 0x80008080);
    }

    private static void loadNoWidth() {
        PageVault x = withSize(8, PAGE);
        due("store(0, 0, 4, -1)", x.store(0, 0, 4, -1), true);
        for (int n : NO_WIDTHS) {
            due(x, "load(0, 0, " + n + ")", x.load(0, 0, n), 0, 2);
        }
        for (int n : new int[] {1, 2, 4}) {
            x.load(0, 0, n);
            due("trap() of load(0, 0, " + n + ")", x.trap(), 0);
        }
    }

    private static void loadCrooked() {
        PageVault x = withSize(8, 2 * PAGE);
        due("store(0, 0, 4, -1)", x.store(0, 0, 4, -1), true);
        for (int at : new int[] {1, 3, 5, 4095, 4097}) {
            due(x, "load(0, " + at + ", 2)", x.load(0, at, 2), 0, 2);
        }
        for (int at : new int[] {1, 2, 3, 5, 6, 7, 4093, 4094, 4095, 4097}) {
            due(x, "load(0, " + at + ", 4)", x.load(0, at, 4), 0, 2);
        }
        for (int at : new int[] {0, 1, 2, 3, 4095}) {
            x.load(0, at, 1);
            due("trap() of load(0, " + at + ", 1)", x.trap(), 0);
        }
        for (int at : new int[] {2, 4, 6, 4094}) {
            x.load(0, at, 2);
            due("trap() of load(0, " + at + ", 2)", x.trap(), 0);
        }
    }

    private static void loadCrookedFirst() {
        PageVault x = withSize(8, LIMIT);
        due("map(0, 0, 0)", x.map(0, 0, 0), 0);
        for (int space : NO_SPACES) {
            due(x, "load(" + space + ", 1, 2)", x.load(space, 1, 2), 0, 2);
            due(x, "load(" + space + ", 0, 3)", x.load(space, 0, 3), 0, 2);
        }
        for (int at : new int[] {-1, -3, LIMIT + 1, LIMIT + 3, MAX, MIN + 1}) {
            due(x, "load(0, " + at + ", 2)", x.load(0, at, 2), 0, 2);
            due(x, "load(0, " + at + ", 4)", x.load(0, at, 4), 0, 2);
            due(x, "load(0, " + at + ", 0)", x.load(0, at, 0), 0, 2);
        }
        due(x, "load of the guard page", x.load(0, 2, 4), 0, 2);
        leave(x, 0);
        due(x, "load without a frame", x.load(0, PAGE + 2, 4), 0, 2);
        due("grow to 1", x.grow(0, 1 - LIMIT), LIMIT);
        due(x, "load behind SIZE", x.load(0, PAGE + 2, 4), 0, 2);
    }

    private static void loadTrapped() {
        PageVault x = withSize(8, 3 * PAGE);
        due("store(0, 0, 4, -1)", x.store(0, 0, 4, -1), true);
        due("protect(0, 0, 14)", x.protect(0, 0, 14), true);
        due(x, "load that is not to be read", x.load(0, 0, 4), 0, 1);
        due("protect(0, 0, 7)", x.protect(0, 0, 7), true);
        due(x, "load of what is no user's", x.load(0, 0, 4), 0, 1);
        due(x, "load at SIZE", x.load(0, 3 * PAGE, 4), 0, 1);
        due(x, "load below 0", x.load(0, -4, 4), 0, 1);
        due(x, "load at LIMIT", x.load(0, LIMIT, 4), 0, 1);
        leave(x, 0);
        due(x, "load without a frame", x.load(0, PAGE, 4), 0, 3);
        due("protect(0, 0, 9)", x.protect(0, 0, 9), true);
        due(x, "load that is to be read", x.load(0, 0, 4), -1, 0);
    }

    private static void loadNoSpace() {
        PageVault x = new PageVault(32);
        due(x, "load(0, 0, 1) before make()", x.load(0, 0, 1), 0, 1);
        for (int k = 0; k < 16; k++) {
            x.make();
            x.grow(k, PAGE);
        }
        for (int space : NO_SPACES) {
            due("a load without a trap", x.load(0, 0, 1), 0);
            due(x, "load(" + space + ", 0, 4)", x.load(space, 0, 4), 0, 1);
        }
        due("drop(4)", x.drop(4), true);
        due(x, "load(4, 0, 4) of a space that is gone", x.load(4, 0, 4), 0, 1);
    }

    private static void fetchWord() {
        PageVault x = withSpace(8);
        due("map(0, 0, 15)", x.map(0, 0, 15), 0);
        due("store of the first word", x.store(0, 0, 4, 0x81020304), true);
        due("store of the last word", x.store(0, 4092, 4, -1), true);
        due("protect(0, 0, 12)", x.protect(0, 0, 12), true);
        due(x, "fetch(0, 0)", x.fetch(0, 0), 0x81020304, 0);
        due(x, "fetch(0, 4092)", x.fetch(0, 4092), -1, 0);
        due(x, "fetch(0, 8)", x.fetch(0, 8), 0, 0);
    }

    private static void fetchCrooked() {
        PageVault x = withSpace(8);
        due("map(0, 0, 15)", x.map(0, 0, 15), 0);
        due("store(0, 0, 4, -1)", x.store(0, 0, 4, -1), true);
        for (int at : new int[] {1, 2, 3, 5, 6, 7, 4094, 4095, PAGE + 1, -1, -2, -3, LIMIT + 2, MAX, MIN + 1}) {
            due(x, "fetch(0, " + at + ")", x.fetch(0, at), 0, 2);
        }
        for (int space : NO_SPACES) {
            due(x, "fetch(" + space + ", 2), trap 2 first", x.fetch(space, 2), 0, 2);
        }
        due("protect(0, 0, 0)", x.protect(0, 0, 0), true);
        due(x, "fetch(0, 2) of a guard page, trap 2 first", x.fetch(0, 2), 0, 2);
    }

    private static void fetchTrapped() {
        PageVault x = withSize(8, 2 * PAGE);
        due("map(0, 0, 11)", x.map(0, 0, 11), 0);
        due("store(0, 0, 4, -1)", x.store(0, 0, 4, -1), true);
        due(x, "fetch that is not to be run", x.fetch(0, 0), 0, 1);
        due("protect(0, 0, 7)", x.protect(0, 0, 7), true);
        due(x, "fetch of what is no user's", x.fetch(0, 0), 0, 1);
        due(x, "fetch of a page that is not there", x.fetch(0, PAGE), 0, 1);
        due(x, "fetch at SIZE", x.fetch(0, 2 * PAGE), 0, 1);
        due("protect(0, 0, 15)", x.protect(0, 0, 15), true);
        for (int at : NO_USERS) {
            due(x, "fetch(0, " + at + ")", x.fetch(0, at), 0, 1);
        }
        for (int space : NO_SPACES) {
            due("a fetch without a trap", x.fetch(0, 0), -1);
            due(x, "fetch(" + space + ", 0)", x.fetch(space, 0), 0, 1);
        }
        due(x, "fetch(1, 0)", x.fetch(1, 0), 0, 1);
        due("free()", x.free(), 5);
    }

    private static void storeLowestBytes() {
        PageVault x = withSize(8, PAGE);
        due(x, "store(0, 4092, 4, 0x04030201)", x.store(0, 4092, 4, 0x04030201), true, 0);
        for (int k = 0; k < 4; k++) {
            due("load(0, " + (4092 + k) + ", 1)", x.load(0, 4092 + k, 1), k + 1);
        }
        due("store of 1 byte of too large a number", x.store(0, 0, 1, 0x12345678), true);
        due("load(0, 0, 4)", x.load(0, 0, 4), 0x78);
        due("store of 2 bytes of too large a number", x.store(0, 4, 2, 0x12345678), true);
        due("load(0, 4, 4)", x.load(0, 4, 4), 0x5678);
        due("store of 1 byte of -1", x.store(0, 9, 1, -1), true);
        due("load(0, 8, 4)", x.load(0, 8, 4), 0xff00);
        due("store of 2 bytes of MIN", x.store(0, 8, 2, MIN), true);
        due("load(0, 8, 4)", x.load(0, 8, 4), 0);
        due("store of 4 bytes of MIN", x.store(0, 12, 4, MIN), true);
        due("load(0, 12, 4)", x.load(0, 12, 4), MIN);
        due("store of 4 bytes of MAX", x.store(0, 16, 4, MAX), true);
        due("load(0, 16, 4)", x.load(0, 16, 4), MAX);
        due("store of 2 bytes in between", x.store(0, 18, 2, 0), true);
        due("load(0, 16, 4)", x.load(0, 16, 4), 0xffff);
    }

    private static void storeCrooked() {
        PageVault x = withSize(8, PAGE);
        due("store(0, 0, 4, 5)", x.store(0, 0, 4, 5), true);
        for (int n : NO_WIDTHS) {
            due(x, "store(0, 0, " + n + ", -1)", x.store(0, 0, n, -1), false, 2);
        }
        for (int at : new int[] {1, 3, 4095, -1, LIMIT + 1, MAX, MIN + 1}) {
            due(x, "store(0, " + at + ", 2, -1)", x.store(0, at, 2, -1), false, 2);
        }
        for (int at : new int[] {1, 2, 3, 4094, -2, LIMIT + 2, MAX, MIN + 2}) {
            due(x, "store(0, " + at + ", 4, -1)", x.store(0, at, 4, -1), false, 2);
        }
        for (int space : NO_SPACES) {
            due(x, "store(" + space + ", 2, 4, -1), trap 2 first", x.store(space, 2, 4, -1), false, 2);
        }
        due("load(0, 0, 4)", x.load(0, 0, 4), 5);
    }

    private static void storeTrapped() {
        PageVault x = withSize(8, 3 * PAGE);
        due("store(0, 0, 4, 5)", x.store(0, 0, 4, 5), true);
        due("protect(0, 0, 13)", x.protect(0, 0, 13), true);
        due(x, "store that is not to be written", x.store(0, 0, 4, 6), false, 1);
        due("protect(0, 0, 7)", x.protect(0, 0, 7), true);
        due(x, "store in what is no user's", x.store(0, 0, 4, 6), false, 1);
        due(x, "store at SIZE", x.store(0, 3 * PAGE, 4, 6), false, 1);
        due("protect(0, 0, 11)", x.protect(0, 0, 11), true);
        for (int at : NO_USERS) {
            due(x, "store(0, " + at + ", 4, 6)", x.store(0, at, 4, 6), false, 1);
        }
        leave(x, 0);
        due(x, "store without a frame", x.store(0, PAGE, 4, 6), false, 3);
        due(x, "load(0, 0, 4)", x.load(0, 0, 4), 5, 0);
        due(x, "store that is to be written", x.store(0, 0, 4, 6), true, 0);
    }

    private static void storeNoSpace() {
        PageVault x = new PageVault(32);
        due(x, "store(0, 0, 1, 1) before make()", x.store(0, 0, 1, 1), false, 1);
        for (int k = 0; k < 16; k++) {
            x.make();
        }
        x.grow(0, PAGE);
        for (int space : NO_SPACES) {
            due("a store without a trap", x.store(0, 0, 4, 5), true);
            due(x, "store(" + space + ", 0, 4, 6)", x.store(space, 0, 4, 6), false, 1);
        }
        due("load(0, 0, 4)", x.load(0, 0, 4), 5);
        due("drop(0)", x.drop(0), true);
        due(x, "store(0, 0, 4, 6) of a space that is gone", x.store(0, 0, 4, 6), false, 1);
    }

    private static void trapOfLatest() {
        PageVault x = withSize(8, PAGE);
        due(x, "load with trap 2", x.load(0, 1, 4), 0, 2);
        due(x, "load with trap 1", x.load(0, PAGE, 4), 0, 1);
        due(x, "fetch with trap 2", x.fetch(0, 2), 0, 2);
        due(x, "fetch with trap 1", x.fetch(0, 0), 0, 1);
        due(x, "store with trap 2", x.store(0, 0, 3, 1), false, 2);
        due(x, "store with trap 1", x.store(0, PAGE, 4, 1), false, 1);
        due(x, "load with trap 2", x.load(0, 1, 4), 0, 2);
        due(x, "out with trap 1", x.out(0, PAGE, 1), 0, 1);
        due(x, "load with trap 2", x.load(0, 1, 4), 0, 2);
        due(x, "in with trap 1", x.in(0, PAGE, 1), 0, 1);
        due(x, "load with trap 2", x.load(0, 1, 4), 0, 2);
        due(x, "text with trap 1", x.text(0, PAGE, 1), -1, 1);
        due(x, "load with trap 2", x.load(0, 1, 4), 0, 2);
        // Calls of all other kinds leave it alone, whether they are refused or not.
        due(x, "make()", x.make(), 1, 2);
        due(x, "drop(1)", x.drop(1), true, 2);
        due(x, "drop(1) again", x.drop(1), false, 2);
        due(x, "fork(0)", x.fork(0), 1, 2);
        due(x, "fork(9)", x.fork(9), -1, 2);
        due(x, "map(1, 0, 11)", x.map(1, 0, 11), 0, 2);
        due(x, "map(1, 0, 16)", x.map(1, 0, 16), -1, 2);
        due(x, "protect(1, 0, 9)", x.protect(1, 0, 9), true, 2);
        due(x, "protect(1, 1, 9)", x.protect(1, 1, 9), false, 2);
        due(x, "grow(1, 1)", x.grow(1, 1), PAGE, 2);
        due(x, "grow(1, MIN)", x.grow(1, MIN), -1, 2);
        due(x, "size(1)", x.size(1), PAGE + 1, 2);
        due(x, "put(0, 1)", x.put(0, 1), true, 2);
        due(x, "put(512, 1)", x.put(512, 1), false, 2);
        due(x, "at(0)", x.at(0), 1, 2);
        due(x, "free()", x.free(), 4, 2);
        leave(x, 0);
        due(x, "map without a frame", x.map(0, 0, 11), -2, 2);
        due(x, "make() without a frame", x.make(), -1, 2);
        due(x, "flags(0, LIMIT)", x.flags(0, LIMIT), -1, 2);
        due(x, "owners(9, 0)", x.owners(9, 0), 0, 2);
        due(x, "load with trap 3", x.load(0, 0, 4), 0, 3);
        due(x, "trap()", x.trap(), 3, 3);
    }

    private static void trapWithoutOne() {
        PageVault x = new PageVault(8);
        due("trap() of a new object", x.trap(), 0);
        x.make();
        x.map(0, 0, 15);
        due("trap() before any touch", x.trap(), 0);
        x.load(0, 1, 4);
        due(x, "load without a trap", x.load(0, 0, 4), 0, 0);
        x.load(0, 1, 4);
        due(x, "fetch without a trap", x.fetch(0, 0), 0, 0);
        x.load(0, 1, 4);
        due(x, "store without a trap", x.store(0, 0, 4, 0), true, 0);
        x.load(0, 1, 4);
        due(x, "out without a trap", x.out(0, 0, 4), 4, 0);
        x.load(0, 1, 4);
        due(x, "in without a trap", x.in(0, 0, 4), 4, 0);
        x.load(0, 1, 4);
        due(x, "text without a trap", x.text(0, 0, 4), 0, 0);
        x.load(0, 1, 4);
        due(x, "out of none", x.out(0, 0, 0), 0, 0);
        x.load(0, 1, 4);
        due(x, "in of none", x.in(0, 0, 0), 0, 0);
        x.load(0, 1, 4);
        due(x, "out with a wrong n", x.out(0, 0, 513), -1, 0);
        x.load(0, 1, 4);
        due(x, "in with a wrong n", x.in(0, 0, -1), -1, 0);
        x.load(0, 1, 4);
        due(x, "text with a wrong n", x.text(0, 0, 0), -1, 0);
    }

    // Promises 13 and 14.

    private static void outFirstBytes() {
        PageVault x = withSize(8, 2 * PAGE);
        fill(x, 0, 12, 200);
        due("store before", x.store(0, 4088, 4, -1), true);
        due("store behind", x.store(0, 4100, 4, -1), true);
        due(x, "out of 8 over two pages", x.out(0, 4092, 8), 8, 0);
        for (int k = 0; k < 8; k++) {
            due("load(0, " + (4092 + k) + ", 1)", x.load(0, 4092 + k, 1), 200 + k);
        }
        due("load before", x.load(0, 4088, 4), -1);
        due("load behind", x.load(0, 4100, 4), -1);
        due(x, "out of 1", x.out(0, 100, 1), 1, 0);
        due("load(0, 100, 4)", x.load(0, 100, 4), 200);
        holds(x, 0, 12, 200);
    }

    private static void outTouchesEach() {
        PageVault x = withSize(12, 3 * PAGE);
        fill(x, 0, 4, 1);
        due("map(0, 0, 10), to be written alone", x.map(0, 0, 10), 0);
        due(x, "out of 4, to a page that it makes", x.out(0, 4094, 4), 4, 0);
        due("flags(0, PAGE)", x.flags(0, PAGE), 11);
        due("fork(0)", x.fork(0), 1);
        due(x, "out of 4, which parts two pages", x.out(1, 4094, 4), 4, 0);
        due("owners(1, 0)", x.owners(1, 0), 1);
        due("owners(1, PAGE)", x.owners(1, PAGE), 1);
        due("fork(0)", x.fork(0), 2);
        due(x, "out of 1, which parts one", x.out(2, 4095, 1), 1, 0);
        due("owners(2, 0)", x.owners(2, 0), 1);
        due("owners(2, PAGE)", x.owners(2, PAGE), 2);
        due(x, "out of none, which touches none", x.out(2, PAGE, 0), 0, 0);
        due("owners(2, PAGE)", x.owners(2, PAGE), 2);
    }

    private static void outBeforeTrap() {
        PageVault x = withSize(8, PAGE);
        fill(x, 0, 20, 1);
        due(x, "out over SIZE", x.out(0, 4090, 20), 6, 1);
        due("load(0, 4092, 4)", x.load(0, 4092, 4), 0x06050403);
        due("flags(0, PAGE)", x.flags(0, PAGE), -1);
        due(x, "out at SIZE", x.out(0, PAGE, 20), 0, 1);
        due("map(0, PAGE, 13)", x.map(0, PAGE, 13), 0);
        due(x, "out to a page that is not to be written", x.out(0, 4093, 20), 3, 1);
        due("load(0, PAGE, 4)", x.load(0, PAGE, 4), 0);
        due("grow(0, PAGE)", x.grow(0, PAGE), 2 * PAGE);
        leave(x, 0);
        due("protect(0, PAGE, 11)", x.protect(0, PAGE, 11), true);
        due(x, "out to a page for which no frame is free", x.out(0, 2 * PAGE - 5, 20), 5, 3);
        due("load(0, 2 * PAGE - 4, 4)", x.load(0, 2 * PAGE - 4, 4), 0x05040302);
        due("flags(0, 2 * PAGE)", x.flags(0, 2 * PAGE), -1);
        PageVault y = withSize(8, 2 * PAGE);
        fill(y, 0, 8, 1);
        due("out", y.out(0, 4092, 8), 8);
        due("fork(0)", y.fork(0), 1);
        leave(y, 1);
        fill(y, 0, 8, 101);
        due(y, "out that can part the first page alone", y.out(1, 4092, 8), 4, 3);
        due("load(1, 4092, 4)", y.load(1, 4092, 4), 0x68676665);
        due("load(1, PAGE, 4)", y.load(1, PAGE, 4), 0x08070605);
        due("load(0, 4092, 4)", y.load(0, 4092, 4), 0x04030201);
    }

    private static void outAll() {
        PageVault x = withSize(8, 4 * PAGE);
        x.put(0, 3);
        x.put(511, 4);
        due(x, "out of none", x.out(0, 0, 0), 0, 0);
        due("flags(0, 0), which none touched", x.flags(0, 0), -1);
        due(x, "out of none to no address of a user's", x.out(0, -1, 0), 0, 0);
        due(x, "out of none at LIMIT", x.out(0, LIMIT, 0), 0, 0);
        due(x, "out of 1", x.out(0, 0, 1), 1, 0);
        due("load(0, 0, 1)", x.load(0, 0, 1), 3);
        due(x, "out of 511", x.out(0, PAGE, 511), 511, 0);
        due("load(0, PAGE + 511, 1)", x.load(0, PAGE + 511, 1), 0);
        due(x, "out of 512", x.out(0, PAGE, 512), 512, 0);
        due("load(0, PAGE, 1)", x.load(0, PAGE, 1), 3);
        due("load(0, PAGE + 511, 1)", x.load(0, PAGE + 511, 1), 4);
        due(x, "out of 512 to the end", x.out(0, 4 * PAGE - 512, 512), 512, 0);
        due("load(0, 4 * PAGE - 1, 1)", x.load(0, 4 * PAGE - 1, 1), 4);
    }

    private static void outNoCount() {
        PageVault x = withSize(8, PAGE);
        x.put(0, 9);
        for (int n : NO_COUNTS) {
            x.load(0, 1, 4);
            due(x, "out(0, 0, " + n + ")", x.out(0, 0, n), -1, 0);
            for (int space : new int[] {1, 15, 16, -1, MAX, MIN}) {
                x.load(0, 1, 4);
                due(x, "out(" + space + ", 0, " + n + ")", x.out(space, 0, n), -1, 0);
            }
            x.load(0, 1, 4);
            due(x, "out(0, -1, " + n + ")", x.out(0, -1, n), -1, 0);
        }
        due("flags(0, 0)", x.flags(0, 0), -1);
        due("free()", x.free(), 7);
    }

    private static void outNoSpace() {
        PageVault x = withSize(8, PAGE);
        for (int space : NO_SPACES) {
            for (int n : new int[] {1, 512}) {
                due("an out without a trap", x.out(0, 0, 1), 1);
                due(x, "out(" + space + ", 0, " + n + ")", x.out(space, 0, n), 0, 1);
            }
            due(x, "out(" + space + ", 0, 0)", x.out(space, 0, 0), 0, 0);
        }
        due("drop(0)", x.drop(0), true);
        due(x, "out(0, 0, 1) of a space that is gone", x.out(0, 0, 1), 0, 1);
        due(x, "out(0, 0, 0) of a space that is gone", x.out(0, 0, 0), 0, 0);
    }

    private static void outWrapsNot() {
        PageVault x = withSpace(8);
        due("map(0, 0, 15)", x.map(0, 0, 15), 0);
        due("map(0, LAST_PAGE, 15)", x.map(0, LAST_PAGE, 15), 0);
        x.put(0, 9);
        x.put(1, 9);
        due(x, "out over LIMIT", x.out(0, LIMIT - 1, 512), 1, 1);
        due("load(0, LIMIT - 1, 1)", x.load(0, LIMIT - 1, 1), 9);
        due(x, "out from below 0", x.out(0, -1, 2), 0, 1);
        due(x, "out from LIMIT", x.out(0, LIMIT, 2), 0, 1);
        due(x, "out over the last int", x.out(0, MAX, 2), 0, 1);
        due(x, "out from the first int", x.out(0, MIN, 2), 0, 1);
        due("load(0, 0, 4)", x.load(0, 0, 4), 0);
        due("load(0, LAST_PAGE, 4)", x.load(0, LAST_PAGE, 4), 0);
    }

    private static void inFirstBytes() {
        PageVault x = withSize(8, 2 * PAGE);
        for (int k = 0; k < 8; k++) {
            x.store(0, 4092 + k, 1, 248 + k);
        }
        fill(x, 0, 12, 1);
        due(x, "in of 8 over two pages", x.in(0, 4092, 8), 8, 0);
        holds(x, 0, 8, 248);
        holds(x, 8, 4, 9);
        due(x, "in of 1", x.in(0, 4099, 1), 1, 0);
        due("at(0)", x.at(0), 255);
        holds(x, 1, 7, 249);
    }

    private static void inTouchesEach() {
        PageVault x = withSize(12, 3 * PAGE);
        due("map(0, 0, 9), to be read alone", x.map(0, 0, 9), 0);
        x.put(3, 7);
        due(x, "in of 4, from a page that it makes", x.in(0, 4094, 4), 4, 0);
        due("flags(0, PAGE)", x.flags(0, PAGE), 11);
        due("at(3)", x.at(3), 0);
        due("fork(0)", x.fork(0), 1);
        int before = x.free();
        due(x, "in of 4, which parts none", x.in(1, 4094, 4), 4, 0);
        due("owners(1, 0)", x.owners(1, 0), 2);
        due("owners(1, PAGE)", x.owners(1, PAGE), 2);
        due("free()", x.free(), before);
        due(x, "in of none, which touches none", x.in(1, 2 * PAGE, 0), 0, 0);
        due("flags(1, 2 * PAGE)", x.flags(1, 2 * PAGE), -1);
    }

    private static void inHowMany() {
        PageVault x = withSize(8, PAGE);
        fill(x, 0, 10, 1);
        due(x, "in over SIZE", x.in(0, 4090, 10), 6, 1);
        holds(x, 6, 4, 7);
        for (int k = 0; k < 6; k++) {
            due("at(" + k + ")", x.at(k), 0);
        }
        fill(x, 0, 10, 1);
        due(x, "in at SIZE", x.in(0, PAGE, 10), 0, 1);
        due("map(0, PAGE, 14)", x.map(0, PAGE, 14), 0);
        due(x, "in from a page that is not to be read", x.in(0, PAGE, 10), 0, 1);
        holds(x, 0, 10, 1);
        due(x, "in up to it", x.in(0, 4093, 10), 3, 1);
        holds(x, 3, 7, 4);
        due("protect(0, PAGE, 9)", x.protect(0, PAGE, 9), true);
        due(x, "in of all", x.in(0, 4093, 512), 512, 0);
        due(x, "in of none", x.in(0, 0, 0), 0, 0);
        due(x, "in of none from no address of a user's", x.in(0, LIMIT, 0), 0, 0);
        due("grow(0, PAGE)", x.grow(0, PAGE), 2 * PAGE);
        leave(x, 0);
        fill(x, 0, 10, 1);
        due(x, "in from a page for which no frame is free", x.in(0, 2 * PAGE - 4, 10), 4, 3);
        holds(x, 4, 6, 5);
    }

    private static void inNoCount() {
        PageVault x = withSize(8, PAGE);
        fill(x, 0, 4, 1);
        for (int n : NO_COUNTS) {
            x.load(0, 1, 4);
            due(x, "in(0, 0, " + n + ")", x.in(0, 0, n), -1, 0);
            for (int space : new int[] {1, 15, 16, -1, MAX, MIN}) {
                x.load(0, 1, 4);
                due(x, "in(" + space + ", 0, " + n + ")", x.in(space, 0, n), -1, 0);
            }
            x.load(0, 1, 4);
            due(x, "in(0, -1, " + n + ")", x.in(0, -1, n), -1, 0);
        }
        holds(x, 0, 4, 1);
        due("flags(0, 0)", x.flags(0, 0), -1);
    }

    private static void inNoSpace() {
        PageVault x = withSize(8, PAGE);
        for (int space : NO_SPACES) {
            for (int n : new int[] {1, 512}) {
                due("an in without a trap", x.in(0, 0, 1), 1);
                x.put(0, 9);
                due(x, "in(" + space + ", 0, " + n + ")", x.in(space, 0, n), 0, 1);
                due("at(0)", x.at(0), 9);
            }
            due(x, "in(" + space + ", 0, 0)", x.in(space, 0, 0), 0, 0);
        }
        due("drop(0)", x.drop(0), true);
        due(x, "in(0, 0, 1) of a space that is gone", x.in(0, 0, 1), 0, 1);
        due(x, "in(0, 0, 0) of a space that is gone", x.in(0, 0, 0), 0, 0);
    }

    private static void inWrapsNot() {
        PageVault x = withSpace(8);
        due("map(0, 0, 15)", x.map(0, 0, 15), 0);
        due("map(0, LAST_PAGE, 15)", x.map(0, LAST_PAGE, 15), 0);
        due("store(0, LIMIT - 1, 1, 9)", x.store(0, LIMIT - 1, 1, 9), true);
        fill(x, 0, 4, 1);
        due(x, "in from below 0", x.in(0, -1, 2), 0, 1);
        due(x, "in from LIMIT", x.in(0, LIMIT, 2), 0, 1);
        due(x, "in over the last int", x.in(0, MAX, 2), 0, 1);
        due(x, "in from the first int", x.in(0, MIN, 2), 0, 1);
        holds(x, 0, 4, 1);
        due(x, "in over LIMIT", x.in(0, LIMIT - 1, 512), 1, 1);
        due("at(0)", x.at(0), 9);
        holds(x, 1, 3, 2);
    }

    // Promise 15.

    /** A space of two pages with the bytes first, first + 1, .. there and a 0 behind them. */
    private static PageVault withText(int at, int count, int first) {
        PageVault x = withSize(8, 2 * PAGE);
        fill(x, 0, count, first);
        if (count < 512) {
            x.put(count, 0);
        }
        due("out", x.out(0, at, Math.min(512, count + 1)), Math.min(512, count + 1));
        return x;
    }

    private static void textWithItsZero() {
        PageVault x = withText(4090, 10, 60);
        fill(x, 0, 14, 101);
        due(x, "text over two pages", x.text(0, 4090, 512), 10, 0);
        holds(x, 0, 10, 60);
        due("at(10), its 0", x.at(10), 0);
        holds(x, 11, 3, 112);
        fill(x, 0, 14, 101);
        due(x, "text that is empty", x.text(0, 4100, 512), 0, 0);
        due("at(0), its 0", x.at(0), 0);
        holds(x, 1, 13, 102);
    }

    private static void textHowMany() {
        PageVault x = withText(100, 20, 1);
        for (int k = 0; k <= 20; k++) {
            due(x, "text from its byte " + k, x.text(0, 100 + k, 512), 20 - k, 0);
        }
        due(x, "text whose 0 is the last of n", x.text(0, 100, 21), 20, 0);
        due(x, "text of 1 byte that is 0", x.text(0, 120, 1), 0, 0);
        // The longest: 511 bytes and the 0.
        PageVault y = withSize(8, PAGE);
        fill(y, 0, 256, 1);
        y.put(255, 7);
        y.out(0, 0, 256);
        y.out(0, 255, 256);
        due("load of its last byte", y.load(0, 510, 1), 7);
        due(y, "text of 512", y.text(0, 0, 512), 511, 0);
        due("at(510)", y.at(510), 7);
        due("at(511)", y.at(511), 0);
        due(y, "text of 511", y.text(0, 0, 511), -1, 0);
    }

    private static void textTouchesEach() {
        PageVault x = withSize(12, 3 * PAGE);
        due("map(0, 0, 11)", x.map(0, 0, 11), 0);
        due("store(0, 4094, 2, -1)", x.store(0, 4094, 2, -1), true);
        due("protect(0, 0, 9), to be read alone", x.protect(0, 0, 9), true);
        due(x, "text that ends in a page that it makes", x.text(0, 4094, 9), 2, 0);
        due("flags(0, PAGE)", x.flags(0, PAGE), 11);
        due("flags(0, 2 * PAGE)", x.flags(0, 2 * PAGE), -1);
        due("fork(0)", x.fork(0), 1);
        due(x, "text that parts none", x.text(1, 4094, 9), 2, 0);
        due("owners(1, 0)", x.owners(1, 0), 2);
        due("owners(1, PAGE)", x.owners(1, PAGE), 2);
    }

    private static void textTrapBefore() {
        PageVault x = withSize(8, PAGE);
        fill(x, 0, 6, 1);
        due("out", x.out(0, 4090, 6), 6);
        fill(x, 0, 10, 101);
        due(x, "text over SIZE", x.text(0, 4090, 10), -1, 1);
        holds(x, 0, 6, 1);
        holds(x, 6, 4, 107);
        due("map(0, PAGE, 14)", x.map(0, PAGE, 14), 0);
        fill(x, 0, 10, 101);
        due(x, "text up to a page that is not to be read", x.text(0, 4092, 10), -1, 1);
        holds(x, 0, 4, 3);
        holds(x, 4, 6, 105);
        fill(x, 0, 10, 101);
        due(x, "text whose first byte traps", x.text(0, PAGE, 10), -1, 1);
        holds(x, 0, 10, 101);
        due("protect(0, PAGE, 11)", x.protect(0, PAGE, 11), true);
        fill(x, 0, 6, 1);
        due("out", x.out(0, 2 * PAGE - 6, 6), 6);
        due("grow(0, PAGE)", x.grow(0, PAGE), 2 * PAGE);
        leave(x, 0);
        fill(x, 0, 10, 101);
        due(x, "text up to a page for which no frame is free", x.text(0, 2 * PAGE - 6, 10), -1, 3);
        holds(x, 0, 6, 1);
        holds(x, 6, 4, 107);
    }

    private static void textTrapBehind() {
        PageVault x = withSize(8, PAGE);
        due("store(0, 4093, 1, 5)", x.store(0, 4093, 1, 5), true);
        due("store(0, 4094, 1, 6)", x.store(0, 4094, 1, 6), true);
        due(x, "text whose 0 is the last byte before a trap", x.text(0, 4093, 512), 2, 0);
        due("flags(0, PAGE)", x.flags(0, PAGE), -1);
        due("store(0, 4095, 1, 7)", x.store(0, 4095, 1, 7), true);
        due(x, "text without a 0 before the trap", x.text(0, 4093, 512), -1, 1);
        due(x, "text whose n ends before the trap", x.text(0, 4093, 3), -1, 0);
    }

    private static void textNoSpace() {
        PageVault x = withSize(8, PAGE);
        for (int space : NO_SPACES) {
            for (int n : new int[] {1, 512}) {
                due("a text without a trap", x.text(0, 0, 1), 0);
                x.put(0, 9);
                due(x, "text(" + space + ", 0, " + n + ")", x.text(space, 0, n), -1, 1);
                due("at(0)", x.at(0), 9);
            }
        }
        due("drop(0)", x.drop(0), true);
        due(x, "text(0, 0, 1) of a space that is gone", x.text(0, 0, 1), -1, 1);
    }

    private static void textNoZero() {
        PageVault x = withText(100, 20, 1);
        fill(x, 0, 24, 101);
        due(x, "text whose 0 is the one behind n", x.text(0, 100, 20), -1, 0);
        holds(x, 0, 20, 1);
        holds(x, 20, 4, 121);
        fill(x, 0, 4, 101);
        due(x, "text of 1 byte that is not 0", x.text(0, 100, 1), -1, 0);
        due("at(0)", x.at(0), 1);
        holds(x, 1, 3, 102);
        PageVault y = withSize(8, PAGE);
        fill(y, 0, 255, 1);
        y.out(0, 0, 255);
        y.out(0, 255, 255);
        y.out(0, 510, 255);
        y.put(511, 0);
        due(y, "text of 512 without a 0", y.text(0, 0, 512), -1, 0);
        due("at(0)", y.at(0), 1);
        due("at(511)", y.at(511), 2);
    }

    private static void textNoCount() {
        PageVault x = withSize(8, PAGE);
        fill(x, 0, 4, 1);
        for (int n : new int[] {0, -1, 513, 514, -512, MAX, MIN}) {
            x.load(0, 1, 4);
            due(x, "text(0, 0, " + n + ")", x.text(0, 0, n), -1, 0);
            for (int space : new int[] {1, 15, 16, -1, MAX, MIN}) {
                x.load(0, 1, 4);
                due(x, "text(" + space + ", 0, " + n + ")", x.text(space, 0, n), -1, 0);
            }
            x.load(0, 1, 4);
            due(x, "text(0, -1, " + n + ")", x.text(0, -1, n), -1, 0);
        }
        holds(x, 0, 4, 1);
        due("flags(0, 0)", x.flags(0, 0), -1);
        due(x, "text(0, 0, 1)", x.text(0, 0, 1), 0, 0);
        due(x, "text(0, 0, 512)", x.text(0, 0, 512), 0, 0);
    }

    private static void textWrapsNot() {
        PageVault x = withSpace(8);
        due("map(0, 0, 15)", x.map(0, 0, 15), 0);
        due("map(0, LAST_PAGE, 15)", x.map(0, LAST_PAGE, 15), 0);
        due("store(0, LIMIT - 1, 1, 9)", x.store(0, LIMIT - 1, 1, 9), true);
        fill(x, 0, 4, 1);
        due(x, "text from below 0", x.text(0, -1, 2), -1, 1);
        due(x, "text from LIMIT", x.text(0, LIMIT, 2), -1, 1);
        due(x, "text over the last int", x.text(0, MAX, 2), -1, 1);
        due(x, "text from the first int", x.text(0, MIN, 2), -1, 1);
        holds(x, 0, 4, 1);
        due(x, "text over LIMIT", x.text(0, LIMIT - 1, 512), -1, 1);
        due("at(0)", x.at(0), 9);
        holds(x, 1, 3, 2);
    }

    // Promises 16 to 20.

    private static void putEdges() {
        PageVault x = new PageVault(8);
        for (int k : new int[] {0, 1, 255, 256, 510, 511}) {
            for (int b : new int[] {0, 1, 127, 128, 254, 255}) {
                due("put(" + k + ", " + b + ")", x.put(k, b), true);
                due("at(" + k + ")", x.at(k), b);
            }
        }
        due("at(2)", x.at(2), 0);
        due("at(509)", x.at(509), 0);
    }

    private static void putNoPlace() {
        PageVault x = new PageVault(8);
        for (int k : NO_PLACES) {
            due("put(" + k + ", 1)", x.put(k, 1), false);
        }
        due("at(0)", x.at(0), 0);
        due("at(1)", x.at(1), 0);
        due("at(511)", x.at(511), 0);
        due("put(0, 1)", x.put(0, 1), true);
        due("put(511, 1)", x.put(511, 1), true);
    }

    private static void putNoByte() {
        PageVault x = new PageVault(8);
        due("put(5, 77)", x.put(5, 77), true);
        for (int b : NO_BYTES) {
            due("put(5, " + b + ")", x.put(5, b), false);
            due("at(5)", x.at(5), 77);
        }
        due("put(5, 0)", x.put(5, 0), true);
        due("put(5, 255)", x.put(5, 255), true);
    }

    private static void atEdges() {
        PageVault x = new PageVault(8);
        due("put(0, 255)", x.put(0, 255), true);
        due("put(511, 128)", x.put(511, 128), true);
        due("at(0)", x.at(0), 255);
        due("at(511)", x.at(511), 128);
        due("at(1)", x.at(1), 0);
        due("at(510)", x.at(510), 0);
        due("at(0) again", x.at(0), 255);
    }

    private static void atNoPlace() {
        PageVault x = new PageVault(8);
        x.put(0, 5);
        x.put(511, 5);
        for (int k : NO_PLACES) {
            due("at(" + k + ")", x.at(k), -1);
        }
    }

    private static void freeNone() {
        PageVault x = withSize(8, LIMIT);
        for (int k = 0; k < 5; k++) {
            x.load(0, k * PAGE, 1);
            due("free()", x.free(), 5 - k);
        }
        x.load(0, 5 * PAGE, 1);
        due("free() of none", x.free(), 0);
        x.load(0, 6 * PAGE, 1);
        x.make();
        x.fork(0);
        x.map(0, 7 * PAGE, 11);
        due("free() after what was refused", x.free(), 0);
    }

    private static void freeAll() {
        for (int frames : new int[] {8, 32}) {
            PageVault x = new PageVault(frames);
            due("free() of a new object", x.free(), frames);
            x.make();
            x.map(0, 0, 11);
            x.fork(0);
            x.store(1, 0, 1, 1);
            x.grow(0, -PAGE);
            x.drop(0);
            x.drop(1);
            due("free() when all is gone", x.free(), frames);
            x.drop(0);
            x.drop(-1);
            due("free() after a drop of none", x.free(), frames);
        }
    }

    private static void flagsOfPage() {
        PageVault x = withSpace(12);
        due("map(0, PAGE, 15)", x.map(0, PAGE, 15), 0);
        due("map(0, LAST_PAGE, 0)", x.map(0, LAST_PAGE, 0), 0);
        due("flags of its first byte", x.flags(0, PAGE), 15);
        due("flags within", x.flags(0, PAGE + 1234), 15);
        due("flags of its last byte", x.flags(0, 2 * PAGE - 1), 15);
        due("flags of the byte before", x.flags(0, PAGE - 1), -1);
        due("flags of the byte behind", x.flags(0, 2 * PAGE), -1);
        due("flags(0, LAST_PAGE)", x.flags(0, LAST_PAGE), 0);
        due("flags(0, LIMIT - 1)", x.flags(0, LIMIT - 1), 0);
        // SIZE is not asked where the page is there.
        due("grow to PAGE + 1", x.grow(0, PAGE + 1 - LIMIT), LIMIT);
        due("flags behind SIZE", x.flags(0, 2 * PAGE - 1), 15);
    }

    private static void flagsAbsent() {
        PageVault x = withSpace(8);
        due("map(0, 0, 15)", x.map(0, 0, 15), 0);
        due("map(0, LAST_PAGE, 15)", x.map(0, LAST_PAGE, 15), 0);
        for (int at : NO_USERS) {
            due("flags(0, " + at + ")", x.flags(0, at), -1);
        }
        for (int at : new int[] {-1, MAX, MIN + 1, LIMIT + 1, PAGE, REGION, REGION + 1, LAST_PAGE - 1, LAST_REGION}) {
            due("flags(0, " + at + ")", x.flags(0, at), -1);
        }
        for (int space : NO_SPACES) {
            due("flags(" + space + ", 0)", x.flags(space, 0), -1);
        }
        due("flags(1, 0)", x.flags(1, 0), -1);
        due("free(): a question makes no page", x.free(), 3);
        due("drop(0)", x.drop(0), true);
        due("flags(0, 0) of a space that is gone", x.flags(0, 0), -1);
    }

    private static void ownersOfPage() {
        PageVault x = withSpace(32);
        due("map(0, PAGE, 0)", x.map(0, PAGE, 0), 0);
        due("map(0, LAST_PAGE, 11)", x.map(0, LAST_PAGE, 11), 0);
        due("owners of its first byte", x.owners(0, PAGE), 1);
        due("owners of its last byte", x.owners(0, 2 * PAGE - 1), 1);
        due("owners of the last page", x.owners(0, LIMIT - 1), 1);
        for (int k = 1; k < 10; k++) {
            due("fork(0)", x.fork(0), k);
            due("owners(0, PAGE)", x.owners(0, PAGE), k + 1);
            due("owners(" + k + ", LAST_PAGE)", x.owners(k, LAST_PAGE), k + 1);
        }
        due("free()", x.free(), 0);
        due("drop(9)", x.drop(9), true);
        due("owners(0, PAGE)", x.owners(0, PAGE), 9);
        due("store(3, LAST_PAGE, 1, 1)", x.store(3, LAST_PAGE, 1, 1), true);
        due("owners(3, LAST_PAGE)", x.owners(3, LAST_PAGE), 1);
        due("owners(0, LAST_PAGE)", x.owners(0, LAST_PAGE), 8);
        due("owners(3, PAGE)", x.owners(3, PAGE), 9);
        due("grow(5, -1) takes no page", x.grow(5, -1), LIMIT);
        due("owners(0, LAST_PAGE)", x.owners(0, LAST_PAGE), 8);
        due("grow(5, 1 - PAGE) takes one", x.grow(5, 1 - PAGE), LIMIT - 1);
        due("owners(0, LAST_PAGE)", x.owners(0, LAST_PAGE), 7);
    }

    private static void ownersAbsent() {
        PageVault x = withSpace(8);
        due("map(0, 0, 15)", x.map(0, 0, 15), 0);
        due("map(0, LAST_PAGE, 15)", x.map(0, LAST_PAGE, 15), 0);
        for (int at : NO_USERS) {
            due("owners(0, " + at + ")", x.owners(0, at), 0);
        }
        for (int at : new int[] {-1, MAX, MIN + 1, LIMIT + 1, PAGE, REGION, REGION + 1, LAST_PAGE - 1, LAST_REGION}) {
            due("owners(0, " + at + ")", x.owners(0, at), 0);
        }
        for (int space : NO_SPACES) {
            due("owners(" + space + ", 0)", x.owners(space, 0), 0);
        }
        due("owners(1, 0)", x.owners(1, 0), 0);
        due("free(): a question makes no page", x.free(), 3);
        due("grow to 0", x.grow(0, -LIMIT), LIMIT);
        due("owners(0, 0) of a page that is gone", x.owners(0, 0), 0);
        due("drop(0)", x.drop(0), true);
        due("owners(0, 0) of a space that is gone", x.owners(0, 0), 0);
    }
}
