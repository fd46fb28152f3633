import java.lang.reflect.Array;
import java.lang.reflect.Field;
import java.lang.reflect.Modifier;
import java.util.ArrayDeque;
import java.util.Collections;
import java.util.IdentityHashMap;
import java.util.Set;

/**
 * What the document says of the vault as a whole, before its first promise: the purposes that "What it
 * is" names, and that all memory is the vault's own, made once.
 */
public final class WholeTest {
    private static final int PAGE = 4096;
    private static final int REGION = 4194304;
    private static final int LIMIT = 1073741824;
    private static final int MIN = Integer.MIN_VALUE;
    private static final int MAX = Integer.MAX_VALUE;

    private static final int[] ADDRESSES = {0, 1, PAGE - 1, PAGE, 2 * PAGE - 3, 2 * PAGE, REGION - 1, REGION,
        LIMIT - PAGE, LIMIT - 1, LIMIT, LIMIT + PAGE, MAX - PAGE, MAX - 511, MAX - 1, MAX, -1, -4, -511, -PAGE,
        MIN, MIN + 1, MIN + LIMIT};
    private static final int[] COUNTS = {MIN, -513, -1, 0, 1, 2, 4, 511, 512, 513, MAX};
    private static final int[] SPACES = {MIN, -1, 0, 1, 2, 15, 16, MAX};

    private static int wrong;
    private static String told;

    public static void main(String[] args) {
        told = "two-level page tables that lie in frames themselves";
        tablesTakeFrames();
        told = "pages that are made when they are first touched";
        pagesComeWithTouch();
        told = "spaces that are copied by sharing until one of them writes";
        copiesShare();
        told = "guard pages";
        guardPageStopsACopy();
        told = "of which no address of a user's can do harm";
        for (int at : ADDRESSES) {
            noAddressHarms(at);
        }
        told = "all memory is the vault's own";
        vaultsAreApart();
        told = "made once";
        memoryIsMadeOnce();
        told = "what later calls answer is free (but they do answer)";
        laterCallsAnswer();
        System.out.println(wrong == 0 ? "the whole is as due" : wrong + " answers are not as due");
        if (wrong != 0) {
            System.exit(1);
        }
    }

    private static void due(String call, Object got, Object want) {
        if (!got.equals(want)) {
            wrong++;
            System.out.println(told + ": " + call + " answered " + got + ", due is " + want);
        }
    }

    private static void tablesTakeFrames() {
        // One frame is the space's, one the region's, and only then do pages have theirs.
        PageVault x = new PageVault(8);
        due("make()", x.make(), 0);
        due("grow(0, LIMIT)", x.grow(0, LIMIT), 0);
        for (int k = 0; k < 3; k++) {
            due("store in region " + k, x.store(0, k * REGION, 4, k), true);
            due("free()", x.free(), 5 - 2 * k);
        }
        due("store in a fourth region", x.store(0, 3 * REGION, 4, 3), false);
        due("trap()", x.trap(), 3);
        due("free()", x.free(), 1);
    }

    private static void pagesComeWithTouch() {
        PageVault x = new PageVault(8);
        x.make();
        x.grow(0, 3 * PAGE);
        due("free() before a touch", x.free(), 7);
        due("load(0, 4096, 4)", x.load(0, PAGE, 4), 0);
        due("flags(0, 0)", x.flags(0, 0), -1);
        due("flags(0, 4096)", x.flags(0, PAGE), 11);
        due("flags(0, 8192)", x.flags(0, 2 * PAGE), -1);
        due("free() after it", x.free(), 5);
    }

    private static void copiesShare() {
        PageVault x = new PageVault(8);
        x.make();
        x.grow(0, PAGE);
        x.store(0, 0, 4, 5);
        due("fork(0)", x.fork(0), 1);
        due("load(1, 0, 4)", x.load(1, 0, 4), 5);
        due("owners(0, 0)", x.owners(0, 0), 2);
        due("store(0, 0, 4, 6)", x.store(0, 0, 4, 6), true);
        due("owners(0, 0)", x.owners(0, 0), 1);
        due("load(1, 0, 4)", x.load(1, 0, 4), 5);
    }

    private static void guardPageStopsACopy() {
        PageVault x = new PageVault(8);
        x.make();
        x.map(0, 0, 11);
        x.map(0, PAGE, 3);
        x.map(0, 2 * PAGE, 11);
        x.put(0, 9);
        due("out over the guard", x.out(0, PAGE - 2, 512), 2);
        due("trap()", x.trap(), 1);
        due("in over the guard", x.in(0, PAGE - 1, 512), 1);
        due("trap()", x.trap(), 1);
        due("store in the guard", x.store(0, PAGE, 4, 1), false);
        due("load behind the guard", x.load(0, 2 * PAGE, 4), 0);
        due("trap()", x.trap(), 0);
        // The kernel may open it; the bytes are still what they were when it was mapped.
        due("protect(0, 4096, 11)", x.protect(0, PAGE, 11), true);
        due("load(0, 4096, 4)", x.load(0, PAGE, 4), 0);
    }

    /** Space 0 is the victim; space 1 and numbers of no space are all that the hostile calls name. */
    private static void noAddressHarms(int at) {
        for (int n : COUNTS) {
            PageVault x = new PageVault(9);
            x.make();
            x.grow(0, 2 * PAGE);
            x.store(0, 0, 4, 0x01020304);
            x.store(0, PAGE - 4, 4, 0x05060708);
            x.fork(0);
            x.put(0, 77);
            x.put(511, 78);
            String before = victim(x);
            for (int space : SPACES) {
                if (space != 0) {
                    hostileCalls(x, space, at, n);
                }
            }
            due("the victim after calls with " + at + " and " + n, victim(x), before);
            due("drop(0)", x.drop(0), true);
            x.drop(1);
            due("free() at the end", x.free(), 9);
        }
    }

    private static void hostileCalls(PageVault x, int space, int at, int n) {
        x.out(space, at, n);
        x.in(space, at, n);
        x.text(space, at, n);
        x.load(space, at, n);
        x.fetch(space, at);
        x.store(space, at, n, -1);
        x.map(space, at, n);
        x.protect(space, at, n);
        x.flags(space, at);
        x.owners(space, at);
        x.put(at, n);
        x.at(at);
        x.grow(space, at);
        x.out(space, at, n);
    }

    private static String victim(PageVault x) {
        return x.size(0) + " " + x.flags(0, 0) + " " + x.flags(0, PAGE) + " " + x.load(0, 0, 4) + " "
            + x.load(0, 4, 4) + " " + x.load(0, PAGE - 8, 4) + " " + x.load(0, PAGE - 4, 4);
    }

    private static void vaultsAreApart() {
        PageVault one = new PageVault(8);
        PageVault other = new PageVault(12);
        due("make() of one", one.make(), 0);
        due("size(0) of the other", other.size(0), -1);
        due("free() of the other", other.free(), 12);
        due("make() of the other", other.make(), 0);
        one.grow(0, PAGE);
        due("size(0) of the other", other.size(0), 0);
        other.grow(0, PAGE);
        due("store of one", one.store(0, 0, 4, 3), true);
        due("load of the other", other.load(0, 0, 4), 0);
        one.put(5, 6);
        due("at(5) of the other", other.at(5), 0);
        one.load(0, 1, 2);
        due("trap() of the other", other.trap(), 0);
        due("store of the other", other.store(0, 0, 4, 4), true);
        due("load of one", one.load(0, 0, 4), 3);
        due("drop of the other", other.drop(0), true);
        due("load of one", one.load(0, 0, 4), 3);
        due("free() of one", one.free(), 5);
    }

    private static void memoryIsMadeOnce() {
        PageVault x = new PageVault(12);
        Set<Object> before = everythingOf(x);
        for (int round = 0; round < 8; round++) {
            x.make();
            x.grow(0, 2 * PAGE);
            x.store(0, PAGE, 4, round);
            x.fork(0);
            x.store(1, PAGE, 4, round);
            x.map(1, REGION, 15);
            x.protect(1, REGION, 9);
            x.fetch(1, REGION);
            x.out(1, PAGE - 2, 512);
            x.in(0, 0, 512);
            x.text(1, REGION, 512);
            x.put(round, round);
            x.grow(1, -PAGE);
            x.drop(1);
            x.drop(0);
        }
        Set<Object> after = everythingOf(x);
        due("how much there is", after.size(), before.size());
        due("that it is the same", before.containsAll(after), true);
    }

    /** Every object and array that is reached from the vault, by identity. */
    private static Set<Object> everythingOf(Object root) {
        Set<Object> seen = Collections.newSetFromMap(new IdentityHashMap<>());
        ArrayDeque<Object> open = new ArrayDeque<>();
        open.add(root);
        while (!open.isEmpty()) {
            Object next = open.remove();
            if (seen.add(next)) {
                if (next.getClass().isArray()) {
                    addElements(next, open);
                } else {
                    addFields(next, open);
                }
            }
        }
        return seen;
    }

    private static void addElements(Object array, ArrayDeque<Object> open) {
        if (array.getClass().getComponentType().isPrimitive()) {
            return;
        }
        for (int k = 0; k < Array.getLength(array); k++) {
            Object element = Array.get(array, k);
            if (element != null) {
                open.add(element);
            }
        }
    }

    private static void addFields(Object object, ArrayDeque<Object> open) {
        for (Field field : object.getClass().getDeclaredFields()) {
            if (field.getType().isPrimitive() || Modifier.isStatic(field.getModifiers())) {
                continue;
            }
            try {
                field.setAccessible(true);
                Object value = field.get(object);
                if (value != null) {
                    open.add(value);
                }
            } catch (IllegalAccessException refused) {
                due("a look at " + field, "refused", "seen");
            }
        }
    }

    private static void laterCallsAnswer() {
        PageVault x = new PageVault(8);
        for (int k = 0; k < 3000; k++) {
            x.make();
            x.grow(k % 17, PAGE);
            hostileCalls(x, k % 17, ADDRESSES[k % ADDRESSES.length], COUNTS[k % COUNTS.length]);
            x.fork(k % 16);
            x.drop(k % 5);
        }
        due("free() is a number of frames", x.free() >= 0 && x.free() <= 8, true);
    }
}
