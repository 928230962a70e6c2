/** Promises 1 to 23: a new object and its table. */
public final class TableTest {
    private static final int MIN = Integer.MIN_VALUE;
    private static final int MAX = Integer.MAX_VALUE;
    private static final Class<IllegalStateException> FULL = IllegalStateException.class;
    private static final Class<IllegalArgumentException> BAD = IllegalArgumentException.class;
    private static final long NONE = Checks.NONE;

    public static void main(String[] args) {
        newObject();
        put();
        putIfAbsent();
        getAndGetOrDefault();
        replaceAndReplaceTold();
        removeAndRemoveTold();
        containsKeyAndValue();
        merge();
        computeIfAbsent();
        computeIfPresent();
        fill();
        fillThatGoesRound();
        fillToTheBrim();
        addToAll();
        dropBelow();
        putShelf();
        putShelfToTheBrim();
        sizeAndClear();
        sums();
        twoObjects();
        Checks.end("TableTest");
    }

    /** A table of the keys 1000 to 1199, which is full; the values are 0 to 63 again and again, but for the last. */
    private static MapsByUse full() {
        MapsByUse x = new MapsByUse();
        x.fill(1000, 1, 64);
        x.fill(1064, 1, 64);
        x.fill(1128, 1, 64);
        Checks.due("fill to 200", x.fill(1192, 1, 8), 200);
        return x;
    }

    private static void newObject() {
        MapsByUse x = new MapsByUse();
        Checks.due("new: size()", x.size(), 0);
        Checks.due("new: get(0)", x.get(0), NONE);
        Checks.due("new: containsKey(0)", x.containsKey(0), false);
        Checks.due("new: containsValue(0)", x.containsValue(0), false);
        Checks.due("new: words()", x.words(), 0);
        Checks.due("new: times(0)", x.times(0), 0);
        Checks.due("new: marked()", x.marked(), 0);
        Checks.due("new: isMarked(0)", x.isMarked(0), false);
        Checks.due("new: length()", x.length(), 0);
        Checks.due("new: look(0)", x.look(0), false);
        Checks.due("new: usedAt(0)", x.usedAt(0), 0);
        Checks.due("new: dropped()", x.dropped(), 0);
        Checks.due("new: walk()", x.walk(), 7);
        Checks.due("new: isTrue()", x.isTrue(), true);
    }

    private static void put() {
        MapsByUse x = new MapsByUse();
        Checks.due("put(0, 0)", x.put(0, 0), NONE);
        Checks.due("put(0, -1)", x.put(0, -1), 0);
        Checks.due("put(0, MIN)", x.put(0, MIN), -1);
        Checks.due("put(MIN, MAX)", x.put(MIN, MAX), NONE);
        Checks.due("put(MIN, 3)", x.put(MIN, 3), MAX);
        Checks.due("get(0)", x.get(0), MIN);
        Checks.due("get(MIN)", x.get(MIN), 3);
        Checks.due("size()", x.size(), 2);
        MapsByUse y = full();
        Checks.throwsDue(y, "put of a new key when full", FULL, () -> y.put(5, 5));
        Checks.due("put of a key that is there when full", y.put(1199, -4), 7);
        Checks.due("get(1199)", y.get(1199), -4);
        y.remove(1000);
        Checks.due("put of the 200th key", y.put(5, 5), NONE);
        Checks.due("size()", y.size(), 200);
    }

    private static void putIfAbsent() {
        MapsByUse x = new MapsByUse();
        Checks.due("putIfAbsent(-5, 0)", x.putIfAbsent(-5, 0), NONE);
        Checks.due("putIfAbsent(-5, 8)", x.putIfAbsent(-5, 8), 0);
        Checks.due("get(-5)", x.get(-5), 0);
        MapsByUse y = full();
        Checks.throwsDue(y, "putIfAbsent of a new key when full", FULL, () -> y.putIfAbsent(5, 5));
        Checks.due("putIfAbsent of a key that is there when full", y.putIfAbsent(1001, 9), 1);
        Checks.due("get(1001)", y.get(1001), 1);
    }

    private static void getAndGetOrDefault() {
        MapsByUse x = new MapsByUse();
        x.put(3, MIN);
        x.put(MAX, 0);
        Checks.due("get(3)", x.get(3), MIN);
        Checks.due("get(MAX)", x.get(MAX), 0);
        Checks.due("get(4)", x.get(4), NONE);
        Checks.due("getOrDefault(3, 1)", x.getOrDefault(3, 1), MIN);
        Checks.due("getOrDefault(MAX, 1)", x.getOrDefault(MAX, 1), 0);
        Checks.due("getOrDefault(4, 1)", x.getOrDefault(4, 1), 1);
        Checks.due("getOrDefault puts nothing", x.get(4), NONE);
        Checks.due("size()", x.size(), 2);
    }

    private static void replaceAndReplaceTold() {
        MapsByUse x = new MapsByUse();
        Checks.due("replace of no key", x.replace(1, 2), NONE);
        Checks.due("size()", x.size(), 0);
        x.put(1, 2);
        Checks.due("replace(1, 3)", x.replace(1, 3), 2);
        Checks.due("get(1)", x.get(1), 3);
        Checks.due("replaceTold of another value", x.replaceTold(1, 2, 9), false);
        Checks.due("get(1)", x.get(1), 3);
        Checks.due("replaceTold(1, 3, 9)", x.replaceTold(1, 3, 9), true);
        Checks.due("get(1)", x.get(1), 9);
        Checks.due("replaceTold of no key", x.replaceTold(2, 0, 9), false);
        Checks.due("get(2)", x.get(2), NONE);
    }

    private static void removeAndRemoveTold() {
        MapsByUse x = new MapsByUse();
        x.fill(10, 1, 5);
        Checks.due("remove of no key", x.remove(9), NONE);
        Checks.due("remove(10)", x.remove(10), 0);
        Checks.due("remove(10) again", x.remove(10), NONE);
        Checks.due("remove(12)", x.remove(12), 2);
        Checks.due("removeTold of another value", x.removeTold(13, 4), false);
        Checks.due("size()", x.size(), 3);
        Checks.due("removeTold(13, 3)", x.removeTold(13, 3), true);
        Checks.due("removeTold of no key", x.removeTold(13, 0), false);
        Checks.due("get(11)", x.get(11), 1);
        Checks.due("get(14)", x.get(14), 4);
        Checks.due("sumOfKeys()", x.sumOfKeys(), 25);
        x.put(12, 77);
        Checks.due("get(12)", x.get(12), 77);
    }

    private static void containsKeyAndValue() {
        MapsByUse x = new MapsByUse();
        x.put(1, 0);
        x.put(2, MIN);
        Checks.due("containsKey(1)", x.containsKey(1), true);
        Checks.due("containsKey(0)", x.containsKey(0), false);
        Checks.due("containsValue(0)", x.containsValue(0), true);
        Checks.due("containsValue(MIN)", x.containsValue(MIN), true);
        Checks.due("containsValue(1)", x.containsValue(1), false);
        x.remove(1);
        Checks.due("containsKey(1)", x.containsKey(1), false);
        Checks.due("containsValue(0)", x.containsValue(0), false);
        x.put(2, 5);
        Checks.due("containsValue(MIN)", x.containsValue(MIN), false);
    }

    private static void merge() {
        MapsByUse x = new MapsByUse();
        Checks.due("merge(6, 0) of no key", x.merge(6, 0), 0);
        Checks.due("containsKey(6)", x.containsKey(6), true);
        Checks.due("merge(6, 0) of a 0", x.merge(6, 0), NONE);
        Checks.due("containsKey(6)", x.containsKey(6), false);
        Checks.due("merge(6, MIN)", x.merge(6, MIN), MIN);
        Checks.due("merge(6, -1)", x.merge(6, -1), MAX);
        Checks.due("get(6)", x.get(6), MAX);
        Checks.due("merge(6, -MAX)", x.merge(6, -MAX), NONE);
        x.put(6, MIN);
        Checks.due("merge(6, MIN) goes round to 0", x.merge(6, MIN), NONE);
        Checks.due("size()", x.size(), 0);
        MapsByUse y = full();
        Checks.throwsDue(y, "merge of a new key when full", FULL, () -> y.merge(5, 0));
        Checks.due("merge of a key that is there when full", y.merge(1002, 5), 7);
        Checks.due("merge that takes out", y.merge(1002, -7), NONE);
        Checks.due("size()", y.size(), 199);
    }

    private static void computeIfAbsent() {
        MapsByUse x = new MapsByUse();
        Checks.due("computeIfAbsent(1)", x.computeIfAbsent(1), 4);
        Checks.due("computeIfAbsent(-1)", x.computeIfAbsent(-1), -2);
        Checks.due("computeIfAbsent(MAX)", x.computeIfAbsent(MAX), 3 * MAX + 1);
        Checks.due("get(MAX)", x.get(MAX), 2147483646L);
        for (int multiple : new int[] {0, 7, -7, 49, 2147483646, -2147483646}) {
            Checks.due("computeIfAbsent(" + multiple + ")", x.computeIfAbsent(multiple), NONE);
            Checks.due("containsKey(" + multiple + ")", x.containsKey(multiple), false);
        }
        x.put(7, 2);
        Checks.due("computeIfAbsent(7) that is there", x.computeIfAbsent(7), 2);
        x.put(1, 0);
        Checks.due("computeIfAbsent(1) that is there", x.computeIfAbsent(1), 0);
        MapsByUse y = full();
        Checks.throwsDue(y, "computeIfAbsent of a new key when full", FULL, () -> y.computeIfAbsent(5));
        Checks.throwsDue(y, "computeIfAbsent of a multiple of 7 when full", FULL, () -> y.computeIfAbsent(14));
        Checks.due("computeIfAbsent of a key that is there when full", y.computeIfAbsent(1001), 1);
        Checks.due("computeIfAbsent of a multiple of 7 that is there when full", y.computeIfAbsent(1008), 8);
    }

    private static void computeIfPresent() {
        MapsByUse x = new MapsByUse();
        Checks.due("computeIfPresent of no key", x.computeIfPresent(1, 1), NONE);
        Checks.due("size()", x.size(), 0);
        x.put(1, 8);
        Checks.due("computeIfPresent(1, 5)", x.computeIfPresent(1, 5), 11);
        Checks.due("get(1)", x.get(1), 11);
        Checks.due("computeIfPresent(1, 2) takes out", x.computeIfPresent(1, 2), NONE);
        Checks.due("containsKey(1)", x.containsKey(1), false);
        x.put(1, 10);
        Checks.due("computeIfPresent(1, 5) is 15", x.computeIfPresent(1, 5), 15);
        x.put(1, 6);
        Checks.due("computeIfPresent(1, 10) is 2", x.computeIfPresent(1, 10), 2);
        x.put(1, 5);
        Checks.due("computeIfPresent(1, 20) is -10", x.computeIfPresent(1, 20), NONE);
        x.put(1, 5);
        Checks.due("computeIfPresent(1, 10) is 0", x.computeIfPresent(1, 10), NONE);
        Checks.due("size()", x.size(), 0);
        x.put(1, MAX);
        Checks.due("computeIfPresent(1, 0) goes round", x.computeIfPresent(1, 0), -2);
        x.put(1, MIN);
        Checks.due("computeIfPresent(1, 1) goes round", x.computeIfPresent(1, 1), -1);
        x.put(1, MIN);
        Checks.due("computeIfPresent(1, MIN) goes round", x.computeIfPresent(1, MIN), MIN);
        // 2 * MAX - 8 is 4294967286, no multiple of 10; as an int it goes round to -10.
        x.put(1, MAX);
        Checks.due("computeIfPresent(1, 8) goes round to -10", x.computeIfPresent(1, 8), NONE);
    }

    private static void fill() {
        MapsByUse x = new MapsByUse();
        Checks.due("fill(1, 1, 0)", x.fill(1, 1, 0), 0);
        Checks.due("fill(5, 3, 4)", x.fill(5, 3, 4), 4);
        Checks.due("get(5)", x.get(5), 0);
        Checks.due("get(8)", x.get(8), 1);
        Checks.due("get(14)", x.get(14), 3);
        Checks.due("get(17)", x.get(17), NONE);
        Checks.due("fill over what is there", x.fill(14, -3, 5), 5);
        Checks.due("get(14)", x.get(14), 0);
        Checks.due("get(5)", x.get(5), 3);
        Checks.due("get(2)", x.get(2), 4);
        Checks.due("fill of 64", x.fill(100, 1, 64), 69);
        Checks.throwsDue(x, "fill of 65", BAD, () -> x.fill(0, 1, 65));
        Checks.throwsDue(x, "fill of -1", BAD, () -> x.fill(0, 1, -1));
        Checks.throwsDue(x, "fill of MAX", BAD, () -> x.fill(0, 1, MAX));
        Checks.throwsDue(x, "fill of MIN", BAD, () -> x.fill(0, 1, MIN));
    }

    private static void fillThatGoesRound() {
        MapsByUse x = new MapsByUse();
        Checks.due("fill(MAX, 1, 3)", x.fill(MAX, 1, 3), 3);
        Checks.due("get(MAX)", x.get(MAX), 0);
        Checks.due("get(MIN)", x.get(MIN), 1);
        Checks.due("get(MIN + 1)", x.get(MIN + 1), 2);
        MapsByUse y = new MapsByUse();
        Checks.due("fill(3, 0, 64)", y.fill(3, 0, 64), 1);
        Checks.due("get(3)", y.get(3), 63);
        Checks.due("fill(4, MIN, 5)", y.fill(4, MIN, 5), 3);
        Checks.due("get(4)", y.get(4), 4);
        Checks.due("get(4 + MIN)", y.get(4 + MIN), 3);
        Checks.due("fill(0, 1 << 27, 64)", y.fill(0, 1 << 27, 64), 35);
        Checks.due("get(0)", y.get(0), 32);
        Checks.due("get(31 << 27)", y.get(31 << 27), 63);
    }

    private static void fillToTheBrim() {
        MapsByUse x = full();
        Checks.due("fill over 64 that are there when full", x.fill(1000, 1, 64), 200);
        Checks.due("fill by a step over 64 that are there when full", x.fill(1199, -3, 64), 200);
        Checks.due("fill of none when full", x.fill(1, 1, 0), 200);
        Checks.throwsDue(x, "fill of one more when full", FULL, () -> x.fill(1, 1, 1));
        Checks.throwsDue(x, "fill of a last one more when full", FULL, () -> x.fill(1150, 1, 51));
        Checks.throwsDue(x, "fill of 65 when full", BAD, () -> x.fill(1, 1, 65));
        x.remove(1000);
        Checks.due("fill of one again and again", x.fill(7, 0, 64), 200);
        Checks.due("get(7)", x.get(7), 63);
        x.remove(7);
        Checks.throwsDue(x, "fill of two into one", FULL, () -> x.fill(7, MIN, 64));
        Checks.throwsDue(x, "fill of two by a step into one", FULL, () -> x.fill(5, 1995, 2));
        Checks.due("fill of one and one that is there into one", x.fill(5, 1145, 2), 200);
        Checks.due("get(1150)", x.get(1150), 1);
        x.remove(5);
        x.remove(1001);
        Checks.due("fill of two again and again", x.fill(7, MIN, 64), 200);
        Checks.due("get(7)", x.get(7), 62);
        Checks.due("get(7 + MIN)", x.get(7 + MIN), 63);
    }

    private static void addToAll() {
        MapsByUse x = new MapsByUse();
        Checks.due("addToAll of none", x.addToAll(1), 0);
        x.fill(1, 1, 3);
        x.put(9, MAX);
        Checks.due("addToAll(2)", x.addToAll(2), 4);
        Checks.due("get(1)", x.get(1), 2);
        Checks.due("get(3)", x.get(3), 4);
        Checks.due("get(9)", x.get(9), MIN + 1);
        Checks.due("addToAll(-4)", x.addToAll(-4), 4);
        Checks.due("a 0 stays", x.get(3), 0);
    }

    private static void dropBelow() {
        MapsByUse x = new MapsByUse();
        Checks.due("dropBelow of none", x.dropBelow(MAX), 0);
        x.fill(20, 1, 6);
        x.put(1, MIN);
        x.put(2, -1);
        x.put(3, MAX);
        Checks.due("dropBelow(MIN)", x.dropBelow(MIN), 0);
        Checks.due("dropBelow(0)", x.dropBelow(0), 2);
        Checks.due("dropBelow(4)", x.dropBelow(4), 4);
        Checks.due("get(24)", x.get(24), 4);
        Checks.due("get(23)", x.get(23), NONE);
        Checks.due("dropBelow(MAX)", x.dropBelow(MAX), 2);
        Checks.due("get(3)", x.get(3), MAX);
        x.put(4, 1);
        Checks.due("dropBelow(2) of the latest pair", x.dropBelow(2), 1);
        Checks.due("size()", x.size(), 1);
    }

    private static void putShelf() {
        MapsByUse x = new MapsByUse();
        Checks.due("putShelf of none", x.putShelf(), 0);
        x.put(1, 10);
        x.lay(1, 11);
        x.lay(2, 12);
        long walk = x.walk();
        Checks.due("putShelf()", x.putShelf(), 2);
        Checks.due("get(1)", x.get(1), 11);
        Checks.due("get(2)", x.get(2), 12);
        Checks.due("walk()", x.walk(), walk);
        Checks.due("usedAt(1)", x.usedAt(1), 1);
        Checks.due("usedAt(2)", x.usedAt(2), 2);
    }

    private static void putShelfToTheBrim() {
        MapsByUse x = full();
        x.lay(1000, -1);
        x.lay(1199, -2);
        Checks.due("putShelf of keys that are there when full", x.putShelf(), 200);
        Checks.due("get(1199)", x.get(1199), -2);
        x.lay(1000, -3);
        x.lay(5, 5);
        Checks.throwsDue(x, "putShelf of one more when full", FULL, x::putShelf);
        Checks.due("get(1000)", x.get(1000), -1);
        x.remove(1100);
        x.take(1199);
        x.lay(6, 6);
        Checks.throwsDue(x, "putShelf of two more into one", FULL, x::putShelf);
        x.take(1000);
        Checks.throwsDue(x, "putShelf of just two into one", FULL, x::putShelf);
        x.take(6);
        x.lay(1000, -3);
        Checks.due("putShelf of the 200th", x.putShelf(), 200);
        Checks.due("get(5)", x.get(5), 5);
    }

    private static void sizeAndClear() {
        MapsByUse x = full();
        x.count(1);
        x.mark(2);
        x.lay(3, 4);
        Checks.due("size()", x.size(), 200);
        Checks.due("clear()", x.clear(), 200);
        Checks.due("size()", x.size(), 0);
        Checks.due("get(1000)", x.get(1000), NONE);
        Checks.due("clear() again", x.clear(), 0);
        Checks.due("words()", x.words(), 1);
        Checks.due("marked()", x.marked(), 1);
        Checks.due("length()", x.length(), 1);
        Checks.due("put after clear", x.put(1000, 3), NONE);
        Checks.due("get after clear", x.get(1000), 3);
        Checks.due("containsValue after clear", x.containsValue(63), false);
        Checks.due("sumOfValues after clear", x.sumOfValues(), 3);
        Checks.due("size()", x.size(), 1);
    }

    private static void sums() {
        MapsByUse x = new MapsByUse();
        Checks.due("sumOfKeys()", x.sumOfKeys(), 0);
        Checks.due("sumOfValues()", x.sumOfValues(), 0);
        Checks.due("sum()", x.sum(), 0);
        x.put(2, 3);
        Checks.due("sum()", x.sum(), (2L * 1000003L + 3L) * -4L);
        x.put(MAX, MIN);
        x.put(MAX - 1, MIN);
        Checks.due("sumOfKeys()", x.sumOfKeys(), 2L + MAX + MAX - 1L);
        Checks.due("sumOfValues()", x.sumOfValues(), 3L + MIN + MIN);
        long first = (1000003L * MAX + MIN) * (MIN - 7L);
        long second = (1000003L * (MAX - 1L) + MIN) * (MIN - 7L);
        Checks.due("sum()", x.sum(), (2L * 1000003L + 3L) * -4L + first + second);
    }

    private static void twoObjects() {
        MapsByUse x = new MapsByUse();
        MapsByUse y = new MapsByUse();
        x.put(1, 1);
        x.count(1);
        x.mark(1);
        x.lay(1, 1);
        Checks.due("another's size()", y.size(), 0);
        Checks.due("another's words()", y.words(), 0);
        Checks.due("another's marked()", y.marked(), 0);
        Checks.due("another's length()", y.length(), 0);
    }
}
