/** Promises 36 to 50: the shelf. */
public final class ShelfTest {
    private static final int MIN = Integer.MIN_VALUE;
    private static final int MAX = Integer.MAX_VALUE;
    private static final Class<IllegalArgumentException> BAD = IllegalArgumentException.class;
    private static final Class<IndexOutOfBoundsException> NO_PLACE = IndexOutOfBoundsException.class;
    private static final long NONE = Checks.NONE;

    public static void main(String[] args) {
        roomAtFirst();
        room();
        wholeRoom();
        lay();
        layIfAbsent();
        useAndUseOrDefault();
        lookAndTake();
        places();
        usedAt();
        wipe();
        dropped();
        walk();
        Checks.end("ShelfTest");
    }

    private static void keysAre(MapsByUse x, int... keys) {
        Checks.due("length()", x.length(), keys.length);
        for (int place = 0; place < keys.length && place < x.length(); place++) {
            Checks.due("keyAt(" + place + ")", x.keyAt(place), keys[place]);
        }
        Checks.due("isTrue()", x.isTrue(), true);
    }

    private static MapsByUse fourLaid() {
        MapsByUse x = new MapsByUse();
        x.lay(1, 10);
        x.lay(2, 20);
        x.lay(3, 30);
        x.lay(4, 40);
        return x;
    }

    private static void roomAtFirst() {
        MapsByUse x = fourLaid();
        keysAre(x, 1, 2, 3, 4);
        Checks.due("lay of a fifth", x.lay(5, 50), NONE);
        keysAre(x, 2, 3, 4, 5);
        Checks.due("dropped()", x.dropped(), 1);
    }

    private static void room() {
        MapsByUse x = fourLaid();
        for (int room : new int[] {0, -1, 61, MIN, MAX}) {
            Checks.throwsDue(x, "room(" + room + ")", BAD, () -> x.room(room));
        }
        Checks.due("room(4)", x.room(4), 0);
        Checks.due("room(2)", x.room(2), 2);
        keysAre(x, 3, 4);
        Checks.due("dropped()", x.dropped(), 2);
        x.lay(5, 50);
        keysAre(x, 4, 5);
        Checks.due("room(1)", x.room(1), 1);
        keysAre(x, 5);
        x.lay(6, 60);
        keysAre(x, 6);
        Checks.due("dropped()", x.dropped(), 5);
        Checks.due("lay over the only one", x.lay(6, 61), 60);
        keysAre(x, 6);
        Checks.due("room(3)", x.room(3), 0);
        x.lay(7, 70);
        x.lay(8, 80);
        keysAre(x, 6, 7, 8);
        Checks.throwsDue(x, "room(61)", BAD, () -> x.room(61));
        x.lay(9, 90);
        keysAre(x, 7, 8, 9);
    }

    private static void wholeRoom() {
        MapsByUse x = new MapsByUse();
        Checks.due("room(60)", x.room(60), 0);
        for (int key = 0; key < 60; key++) {
            x.lay(key, -key);
        }
        Checks.due("length()", x.length(), 60);
        Checks.due("keyAt(0)", x.keyAt(0), 0);
        Checks.due("keyAt(59)", x.keyAt(59), 59);
        Checks.due("dropped()", x.dropped(), 0);
        x.lay(60, 7);
        Checks.due("length()", x.length(), 60);
        Checks.due("keyAt(0)", x.keyAt(0), 1);
        Checks.due("keyAt(59)", x.keyAt(59), 60);
        Checks.due("valueAt(59)", x.valueAt(59), 7);
        Checks.due("usedAt(60)", x.usedAt(60), 61);
        Checks.due("use(1)", x.use(1), -1);
        Checks.due("keyAt(59)", x.keyAt(59), 1);
        Checks.due("room(1)", x.room(1), 59);
        Checks.due("dropped()", x.dropped(), 60);
        keysAre(x, 1);
    }

    private static void lay() {
        MapsByUse x = new MapsByUse();
        Checks.due("lay(MIN, 0)", x.lay(MIN, 0), NONE);
        Checks.due("lay(MAX, MIN)", x.lay(MAX, MIN), NONE);
        Checks.due("lay(MIN, 5)", x.lay(MIN, 5), 0);
        keysAre(x, MAX, MIN);
        Checks.due("valueAt(1)", x.valueAt(1), 5);
        Checks.due("lay(MAX, MAX)", x.lay(MAX, MAX), MIN);
        keysAre(x, MIN, MAX);
        Checks.due("lay over a pair of a full shelf", fourLaid().lay(2, 9), 20);
        MapsByUse y = fourLaid();
        y.lay(2, 9);
        keysAre(y, 1, 3, 4, 2);
        Checks.due("dropped()", y.dropped(), 0);
        Checks.due("size()", y.size(), 0);
    }

    private static void layIfAbsent() {
        MapsByUse x = fourLaid();
        Checks.due("layIfAbsent(2, 9)", x.layIfAbsent(2, 9), 20);
        keysAre(x, 1, 3, 4, 2);
        Checks.due("valueAt(3)", x.valueAt(3), 20);
        Checks.due("usedAt(2)", x.usedAt(2), 5);
        Checks.due("layIfAbsent(7, 0)", x.layIfAbsent(7, 0), NONE);
        keysAre(x, 3, 4, 2, 7);
        Checks.due("valueAt(3)", x.valueAt(3), 0);
        Checks.due("usedAt(7)", x.usedAt(7), 6);
        Checks.due("layIfAbsent(7, 3)", x.layIfAbsent(7, 3), 0);
        Checks.due("dropped()", x.dropped(), 1);
    }

    private static void useAndUseOrDefault() {
        MapsByUse x = fourLaid();
        Checks.due("use(9)", x.use(9), NONE);
        Checks.due("useOrDefault(9, 3)", x.useOrDefault(9, 3), 3);
        keysAre(x, 1, 2, 3, 4);
        Checks.due("use(1)", x.use(1), 10);
        keysAre(x, 2, 3, 4, 1);
        Checks.due("usedAt(1)", x.usedAt(1), 5);
        Checks.due("useOrDefault(3, 99)", x.useOrDefault(3, 99), 30);
        keysAre(x, 2, 4, 1, 3);
        Checks.due("usedAt(3)", x.usedAt(3), 6);
        Checks.due("valueAt(3)", x.valueAt(3), 30);
        Checks.due("use(3) at the last place", x.use(3), 30);
        keysAre(x, 2, 4, 1, 3);
        Checks.due("dropped()", x.dropped(), 0);
        x.lay(5, 50);
        keysAre(x, 4, 1, 3, 5);
    }

    private static void lookAndTake() {
        MapsByUse x = fourLaid();
        Checks.due("look(1)", x.look(1), true);
        Checks.due("look(9)", x.look(9), false);
        keysAre(x, 1, 2, 3, 4);
        Checks.due("usedAt(1)", x.usedAt(1), 1);
        Checks.due("take(9)", x.take(9), NONE);
        Checks.due("take(2)", x.take(2), 20);
        Checks.due("take(2) again", x.take(2), NONE);
        Checks.due("look(2)", x.look(2), false);
        keysAre(x, 1, 3, 4);
        Checks.due("usedAt(3)", x.usedAt(3), 3);
        Checks.due("usedAt(4)", x.usedAt(4), 4);
        Checks.due("dropped()", x.dropped(), 0);
        x.lay(2, 21);
        Checks.due("usedAt(2): take is no use", x.usedAt(2), 5);
        keysAre(x, 1, 3, 4, 2);
    }

    private static void places() {
        MapsByUse x = new MapsByUse();
        Checks.throwsDue(x, "keyAt(0) of none", NO_PLACE, () -> x.keyAt(0));
        Checks.throwsDue(x, "valueAt(0) of none", NO_PLACE, () -> x.valueAt(0));
        x.lay(8, MIN);
        x.lay(MAX, 80);
        for (int place : new int[] {-1, 2, 3, MIN, MAX}) {
            Checks.throwsDue(x, "keyAt(" + place + ")", NO_PLACE, () -> x.keyAt(place));
            Checks.throwsDue(x, "valueAt(" + place + ")", NO_PLACE, () -> x.valueAt(place));
        }
        Checks.due("keyAt(0)", x.keyAt(0), 8);
        Checks.due("keyAt(1)", x.keyAt(1), MAX);
        Checks.due("valueAt(0)", x.valueAt(0), MIN);
        Checks.due("valueAt(1)", x.valueAt(1), 80);
        Checks.due("usedAt(8): no use", x.usedAt(8), 1);
        x.lay(9, 1);
        Checks.due("usedAt(9)", x.usedAt(9), 3);
    }

    private static void usedAt() {
        MapsByUse x = new MapsByUse();
        Checks.due("usedAt(1)", x.usedAt(1), 0);
        x.use(1);
        x.lay(1, 0);
        Checks.due("usedAt(1)", x.usedAt(1), 1);
        x.lay(1, 0);
        Checks.due("usedAt(1) at the last place", x.usedAt(1), 2);
        x.layIfAbsent(1, 5);
        x.use(1);
        x.useOrDefault(1, 5);
        Checks.due("usedAt(1)", x.usedAt(1), 5);
        x.take(1);
        Checks.due("usedAt(1) when taken", x.usedAt(1), 0);
        x.lay(2, 0);
        Checks.due("usedAt(2)", x.usedAt(2), 6);
        x.wipe();
        Checks.due("usedAt(2) when wiped", x.usedAt(2), 0);
        x.room(1);
        x.lay(3, 0);
        x.lay(4, 0);
        Checks.due("usedAt(3) when dropped", x.usedAt(3), 0);
        Checks.due("usedAt(4)", x.usedAt(4), 8);
    }

    private static void wipe() {
        MapsByUse x = fourLaid();
        x.room(3);
        x.put(1, 1);
        Checks.due("wipe()", x.wipe(), 3);
        Checks.due("length()", x.length(), 0);
        Checks.due("look(4)", x.look(4), false);
        Checks.due("dropped()", x.dropped(), 1);
        Checks.due("wipe() again", x.wipe(), 0);
        Checks.due("isTrue()", x.isTrue(), true);
        Checks.due("size()", x.size(), 1);
        for (int key = 1; key <= 4; key++) {
            x.lay(key, key);
        }
        keysAre(x, 2, 3, 4);
        Checks.due("valueAt(0)", x.valueAt(0), 2);
        Checks.due("usedAt(2)", x.usedAt(2), 6);
    }

    private static void dropped() {
        MapsByUse x = fourLaid();
        x.lay(5, 0);
        x.layIfAbsent(6, 0);
        Checks.due("dropped()", x.dropped(), 2);
        x.take(6);
        Checks.due("dropped() after take", x.dropped(), 2);
        x.room(1);
        Checks.due("dropped() after room", x.dropped(), 4);
        x.wipe();
        Checks.due("dropped() after wipe", x.dropped(), 4);
        x.clear();
        x.lay(1, 1);
        x.lay(1, 2);
        Checks.due("dropped() after lay over", x.dropped(), 4);
    }

    private static void walk() {
        MapsByUse x = new MapsByUse();
        Checks.due("walk()", x.walk(), 7);
        x.lay(3, -2);
        Checks.due("walk() over one", x.walk(), (7L * 31L + 3L) * 31L - 2L);
        x.lay(MIN, MAX);
        long one = (7L * 31L + 3L) * 31L - 2L;
        Checks.due("walk() over two", x.walk(), (one * 31L + MIN) * 31L + MAX);
        Checks.due("usedAt(3): no use", x.usedAt(3), 1);
        keysAre(x, 3, MIN);
        x.room(60);
        long all = x.walk();
        for (int key = 0; key < 30; key++) {
            x.lay(key + 100, MIN + key);
            all = (all * 31L + key + 100) * 31L + MIN + key;
        }
        Checks.due("walk() that goes round", x.walk(), all);
    }
}
