import java.util.function.ObjIntConsumer;

/** Promises 1 to 14, sentence by sentence: a new object, and the calls that look at one key of the table. */
public final class TableTest {
    private static final int MIN = Integer.MIN_VALUE;
    private static final int MAX = Integer.MAX_VALUE;
    private static final Class<IllegalStateException> FULL = IllegalStateException.class;
    private static final long NONE = Checks.NONE;

    public static void main(String[] args) {
        newObject();
        eachObjectOfItsOwn();
        put();
        putTellsTheValueBefore();
        putWhenFull();
        putIfAbsent();
        putIfAbsentTellsWhatStays();
        putIfAbsentWhenFull();
        get();
        getOrDefault();
        replace();
        replaceTellsTheValueBefore();
        replaceTold();
        replaceToldTellsWhetherItWasThere();
        remove();
        removeTellsTheValue();
        removeTold();
        removeToldTellsWhetherItHad();
        containsKey();
        containsValue();
        merge();
        mergeToZero();
        mergeOfZeroWithoutAKey();
        mergeTellsTheValueThen();
        mergeWhenFull();
        computeIfAbsent();
        computeIfAbsentOfAMultipleOf7();
        computeIfAbsentTellsTheValueThen();
        computeIfAbsentWhenFull();
        computeIfAbsentOfAMultipleOf7WhenFull();
        computeIfPresent();
        computeIfPresentToAMultipleOf10();
        computeIfPresentThatGoesRound();
        computeIfPresentWithoutAKey();
        Checks.end("TableTest", args);
    }

    private static void newObject() {
        Checks.promise(1, "Creates a table, words, marks and a shelf, without anything");
        MapsByUse x = new MapsByUse();
        for (int number : new int[] {0, 1, -1, MIN, MAX}) {
            Checks.due("get(" + number + ")", x.get(number), NONE);
            Checks.due("containsKey(" + number + ")", x.containsKey(number), false);
            Checks.due("containsValue(" + number + ")", x.containsValue(number), false);
            Checks.due("isMarked(" + number + ")", x.isMarked(number), false);
            Checks.due("look(" + number + ")", x.look(number), false);
            Checks.due("usedAt(" + number + ")", x.usedAt(number), 0);
        }
        Checks.due("size()", x.size(), 0);
        Checks.due("words()", x.words(), 0);
        Checks.due("times(0)", x.times(0), 0);
        Checks.due("marked()", x.marked(), 0);
        Checks.due("length()", x.length(), 0);
        Checks.due("dropped()", x.dropped(), 0);
        Checks.due("walk()", x.walk(), 7);
        Checks.due("isTrue()", x.isTrue(), true);
    }

    private static void eachObjectOfItsOwn() {
        Checks.promise(1, "Creates a table, words, marks and a shelf, without anything");
        MapsByUse x = new MapsByUse();
        MapsByUse y = new MapsByUse();
        x.put(1, 1);
        x.count(1);
        x.mark(1);
        x.room(1);
        x.lay(1, 1);
        x.lay(2, 2);
        Checks.due("another's size()", y.size(), 0);
        Checks.due("another's words()", y.words(), 0);
        Checks.due("another's marked()", y.marked(), 0);
        Checks.due("another's length()", y.length(), 0);
        Checks.due("another's dropped()", y.dropped(), 0);
        y.lay(3, 3);
        y.lay(4, 4);
        Checks.due("another's length(), of a room of its own", y.length(), 2);
        Checks.due("another's usedAt(4)", y.usedAt(4), 2);
        Checks.due("the length()", x.length(), 1);
    }

    /** With 199 pairs a new key goes in; with 200 none does, but the keys that are there may be told. */
    private static void refusesANewKeyWhenFull(String call, ObjIntConsumer<MapsByUse> body) {
        MapsByUse x = Made.table(199);
        body.accept(x, 5);
        Checks.due("size() after " + call + " of the 200th key", x.size(), 200);
        for (int key : new int[] {5, 0, -1, 999, 1200, MIN, MAX}) {
            Checks.refused(call + " of the 201st key, " + key, FULL, Made::fullTable, y -> body.accept(y, key));
        }
        MapsByUse z = Made.fullTable();
        body.accept(z, 1001);
        body.accept(z, 1199);
        Checks.due("size() after " + call + " of keys that are there", z.size(), 200);
        z.remove(1100);
        body.accept(z, 1100);
        Checks.due("size() after " + call + " of a key that went", z.size(), 200);
    }

    private static void put() {
        Checks.promise(2, "Puts a value for a key, in place of the one that is there");
        MapsByUse x = new MapsByUse();
        x.put(0, 0);
        Checks.due("get(0)", x.get(0), 0);
        x.put(0, MIN);
        Checks.due("get(0)", x.get(0), MIN);
        x.put(MIN, MAX);
        x.put(MIN, 3);
        Checks.due("get(MIN)", x.get(MIN), 3);
        Checks.due("get(0)", x.get(0), MIN);
        Checks.due("size()", x.size(), 2);
    }

    private static void putTellsTheValueBefore() {
        Checks.promise(2, "Returns the value before, or none");
        MapsByUse x = new MapsByUse();
        Checks.due("put(0, 0)", x.put(0, 0), NONE);
        Checks.due("put(0, -1)", x.put(0, -1), 0);
        Checks.due("put(0, MIN)", x.put(0, MIN), -1);
        Checks.due("put(0, 1)", x.put(0, 1), MIN);
        x.remove(0);
        Checks.due("put(0, 1) of a key that went", x.put(0, 1), NONE);
    }

    private static void putWhenFull() {
        Checks.promise(2, "Throws IllegalStateException if there is no such key and the table holds 200");
        refusesANewKeyWhenFull("put", (x, key) -> x.put(key, 5));
        MapsByUse x = Made.fullTable();
        Checks.due("put of a key that is there when full", x.put(1199, -4), 7);
        Checks.due("get(1199)", x.get(1199), -4);
    }

    private static void putIfAbsent() {
        Checks.promise(3, "Puts a value for a key if there is none");
        MapsByUse x = new MapsByUse();
        x.putIfAbsent(-5, 0);
        Checks.due("get(-5)", x.get(-5), 0);
        x.putIfAbsent(-5, 8);
        Checks.due("get(-5) whose 0 stays", x.get(-5), 0);
        Checks.due("size()", x.size(), 1);
    }

    private static void putIfAbsentTellsWhatStays() {
        Checks.promise(3, "Returns the value that is there already, which stays, or none");
        MapsByUse x = new MapsByUse();
        Checks.due("putIfAbsent(MAX, -1)", x.putIfAbsent(MAX, -1), NONE);
        Checks.due("putIfAbsent(MAX, 8)", x.putIfAbsent(MAX, 8), -1);
        Checks.due("putIfAbsent(MAX, 9)", x.putIfAbsent(MAX, 9), -1);
    }

    private static void putIfAbsentWhenFull() {
        Checks.promise(3, "Throws IllegalStateException if there is no such key and the table holds 200");
        refusesANewKeyWhenFull("putIfAbsent", (x, key) -> x.putIfAbsent(key, 5));
        MapsByUse x = Made.fullTable();
        Checks.due("putIfAbsent of a key that is there when full", x.putIfAbsent(1001, 9), 1);
        Checks.due("get(1001)", x.get(1001), 1);
    }

    private static void get() {
        Checks.promise(4, "Returns the value, or none");
        MapsByUse x = new MapsByUse();
        Checks.due("get(0) of an empty table", x.get(0), NONE);
        x.put(3, MIN);
        x.put(MAX, 0);
        Checks.due("get(3)", x.get(3), MIN);
        Checks.due("get(MAX)", x.get(MAX), 0);
        Checks.due("get(4)", x.get(4), NONE);
        Checks.due("get(0), which is only a value", x.get(0), NONE);
        MapsByUse y = Made.fullTable();
        Checks.due("get of the first of 200", y.get(1000), 0);
        Checks.due("get of the last of 200", y.get(1199), 7);
        Checks.due("get of a 201st", y.get(1200), NONE);
        Checks.due("size() after it", y.size(), 200);
    }

    private static void getOrDefault() {
        Checks.promise(5, "Returns the value, or the other number");
        MapsByUse x = new MapsByUse();
        for (int other : new int[] {0, -1, MIN, MAX}) {
            Checks.due("getOrDefault(4, " + other + ")", x.getOrDefault(4, other), other);
        }
        x.put(3, MIN);
        x.put(MAX, 0);
        Checks.due("getOrDefault(3, 1)", x.getOrDefault(3, 1), MIN);
        Checks.due("getOrDefault(MAX, 1) of a 0", x.getOrDefault(MAX, 1), 0);
        Checks.due("get(4): nothing was put", x.get(4), NONE);
        Checks.due("size()", x.size(), 2);
    }

    private static void replace() {
        Checks.promise(6, "Puts a value for a key in place of one that is there; without one nothing is put");
        MapsByUse x = new MapsByUse();
        x.replace(1, 2);
        Checks.due("size() after replace of no key", x.size(), 0);
        x.put(1, 0);
        x.replace(1, 3);
        Checks.due("get(1)", x.get(1), 3);
        x.replace(2, 5);
        Checks.due("get(2)", x.get(2), NONE);
        Checks.due("get(1)", x.get(1), 3);
        MapsByUse y = Made.fullTable();
        Checks.due("replace of no key when full", y.replace(5, 5), NONE);
        Checks.due("size()", y.size(), 200);
        Checks.due("replace of a key that is there when full", y.replace(1199, MIN), 7);
        Checks.due("get(1199)", y.get(1199), MIN);
    }

    private static void replaceTellsTheValueBefore() {
        Checks.promise(6, "Returns the value before, or none");
        MapsByUse x = new MapsByUse();
        Checks.due("replace of no key", x.replace(1, 2), NONE);
        x.put(1, 0);
        Checks.due("replace(1, -1)", x.replace(1, -1), 0);
        Checks.due("replace(1, 3)", x.replace(1, 3), -1);
        x.remove(1);
        Checks.due("replace of a key that went", x.replace(1, 2), NONE);
    }

    private static void replaceTold() {
        Checks.promise(7, "Puts a value for a key in place of a told one; without just this nothing is put");
        MapsByUse x = new MapsByUse();
        x.put(1, 3);
        x.replaceTold(1, 2, 9);
        x.replaceTold(1, 4, 9);
        Checks.due("get(1) after another value was told", x.get(1), 3);
        x.replaceTold(1, 3, 9);
        Checks.due("get(1)", x.get(1), 9);
        x.replaceTold(2, 0, 9);
        x.replaceTold(9, 9, 1);
        Checks.due("get(2)", x.get(2), NONE);
        Checks.due("size()", x.size(), 1);
        x.put(2, 9);
        x.replaceTold(2, 9, 5);
        Checks.due("get(1), which has the told value too", x.get(1), 9);
        Checks.due("get(2)", x.get(2), 5);
    }

    private static void replaceToldTellsWhetherItWasThere() {
        Checks.promise(7, "Returns whether it was there");
        MapsByUse x = new MapsByUse();
        for (int told : new int[] {0, -1, 9, MIN, MAX}) {
            Checks.due("replaceTold of no key, told " + told, x.replaceTold(2, told, 9), false);
        }
        for (int told : new int[] {0, -1, MIN, MAX}) {
            x.put(1, told);
            Checks.due("replaceTold of one more than " + told, x.replaceTold(1, told + 1, 5), false);
            Checks.due("replaceTold of " + told, x.replaceTold(1, told, told), true);
            Checks.due("replaceTold of " + told + " again", x.replaceTold(1, told, 5), true);
            Checks.due("replaceTold of " + told + " that is no more", x.replaceTold(1, told, 5), false);
        }
        Checks.due("replaceTold when full", Made.fullTable().replaceTold(1199, 7, 8), true);
        Checks.due("replaceTold of no key when full", Made.fullTable().replaceTold(5, 0, 8), false);
    }

    private static void remove() {
        Checks.promise(8, "Takes a key out, with its value");
        MapsByUse x = new MapsByUse();
        x.fill(10, 1, 5);
        x.remove(9);
        Checks.due("size() after remove of no key", x.size(), 5);
        x.remove(10);
        x.remove(12);
        x.remove(14);
        Checks.due("size()", x.size(), 2);
        Checks.due("containsKey(12)", x.containsKey(12), false);
        Checks.due("containsValue(2)", x.containsValue(2), false);
        Checks.due("get(11)", x.get(11), 1);
        Checks.due("get(13)", x.get(13), 3);
        x.put(12, 77);
        Checks.due("get(12)", x.get(12), 77);
        for (int key = 11; key <= 13; key++) {
            x.remove(key);
        }
        Checks.due("size() of none", x.size(), 0);
    }

    private static void removeTellsTheValue() {
        Checks.promise(8, "Returns the value, or none");
        MapsByUse x = new MapsByUse();
        Checks.due("remove of an empty table", x.remove(0), NONE);
        x.put(0, 0);
        x.put(MIN, -1);
        Checks.due("remove(5)", x.remove(5), NONE);
        Checks.due("remove(0)", x.remove(0), 0);
        Checks.due("remove(0) again", x.remove(0), NONE);
        Checks.due("remove(MIN)", x.remove(MIN), -1);
        MapsByUse y = Made.fullTable();
        Checks.due("remove of the last of 200", y.remove(1199), 7);
        Checks.due("size()", y.size(), 199);
    }

    private static void removeTold() {
        Checks.promise(9, "Takes a key out, if it has a told value");
        MapsByUse x = new MapsByUse();
        x.fill(10, 1, 5);
        x.removeTold(13, 4);
        x.removeTold(13, 2);
        x.removeTold(9, 0);
        Checks.due("size() after other values were told", x.size(), 5);
        x.removeTold(13, 3);
        Checks.due("size()", x.size(), 4);
        Checks.due("get(13)", x.get(13), NONE);
        Checks.due("get(14)", x.get(14), 4);
        Checks.due("get(12)", x.get(12), 2);
    }

    private static void removeToldTellsWhetherItHad() {
        Checks.promise(9, "Returns whether it had");
        MapsByUse x = new MapsByUse();
        for (int told : new int[] {0, -1, MIN, MAX}) {
            Checks.due("removeTold of no key, told " + told, x.removeTold(1, told), false);
            x.put(1, told);
            Checks.due("removeTold of one more than " + told, x.removeTold(1, told + 1), false);
            Checks.due("removeTold of " + told, x.removeTold(1, told), true);
            Checks.due("removeTold of " + told + " again", x.removeTold(1, told), false);
        }
    }

    private static void containsKey() {
        Checks.promise(10, "Returns whether there is");
        MapsByUse x = new MapsByUse();
        for (int key : new int[] {0, -1, MIN, MAX}) {
            Checks.due("containsKey(" + key + ") of none", x.containsKey(key), false);
            x.put(key, 1);
            Checks.due("containsKey(" + key + ")", x.containsKey(key), true);
        }
        Checks.due("containsKey(1), which is only a value", x.containsKey(1), false);
        x.remove(MAX);
        Checks.due("containsKey(MAX) after remove", x.containsKey(MAX), false);
        MapsByUse y = Made.fullTable();
        Checks.due("containsKey of the first of 200", y.containsKey(1000), true);
        Checks.due("containsKey of the last of 200", y.containsKey(1199), true);
        Checks.due("containsKey of a 201st", y.containsKey(1200), false);
    }

    private static void containsValue() {
        Checks.promise(11, "Returns whether one has");
        MapsByUse x = new MapsByUse();
        Checks.due("containsValue(0) of none", x.containsValue(0), false);
        x.put(1, 0);
        x.put(2, MIN);
        x.put(3, MIN);
        Checks.due("containsValue(0)", x.containsValue(0), true);
        Checks.due("containsValue(MIN)", x.containsValue(MIN), true);
        Checks.due("containsValue(1), which is only a key", x.containsValue(1), false);
        x.remove(2);
        Checks.due("containsValue(MIN), which another key has", x.containsValue(MIN), true);
        x.put(3, 4);
        Checks.due("containsValue(MIN), which no key has any more", x.containsValue(MIN), false);
        Checks.due("containsValue(4)", x.containsValue(4), true);
        MapsByUse y = Made.fullTable();
        y.put(1199, -9);
        Checks.due("containsValue of the last of 200", y.containsValue(-9), true);
        y.remove(1199);
        Checks.due("containsValue after remove", y.containsValue(-9), false);
    }

    private static void merge() {
        Checks.promise(12, "Adds a number to the value of a key, or puts it, if there is none");
        MapsByUse x = new MapsByUse();
        Checks.due("merge(5, 3) of no key", x.merge(5, 3), 3);
        Checks.due("merge(5, 4)", x.merge(5, 4), 7);
        Checks.due("get(5)", x.get(5), 7);
        Checks.due("merge(5, 0)", x.merge(5, 0), 7);
        Checks.due("merge(6, MIN) of no key", x.merge(6, MIN), MIN);
        Checks.due("merge(6, -1) goes round", x.merge(6, -1), MAX);
        Checks.due("merge(6, MAX) goes round", x.merge(6, MAX), -2);
        Checks.due("size()", x.size(), 2);
    }

    private static void mergeToZero() {
        Checks.promise(12, "if the sum is 0, the key is taken out");
        MapsByUse x = new MapsByUse();
        x.put(5, 7);
        x.put(6, 1);
        x.put(8, MIN);
        x.put(9, 0);
        Checks.due("merge(5, -7)", x.merge(5, -7), NONE);
        Checks.due("containsKey(5)", x.containsKey(5), false);
        Checks.due("get(6)", x.get(6), 1);
        Checks.due("merge(6, -2) beyond 0", x.merge(6, -2), -1);
        Checks.due("merge(8, MIN) goes round to 0", x.merge(8, MIN), NONE);
        Checks.due("merge(9, 0) of a 0", x.merge(9, 0), NONE);
        Checks.due("size()", x.size(), 1);
        MapsByUse y = Made.fullTable();
        Checks.due("merge to 0 when full", y.merge(1199, -7), NONE);
        Checks.due("size()", y.size(), 199);
    }

    private static void mergeOfZeroWithoutAKey() {
        Checks.promise(12, "(a 0 is put, if there was none)");
        MapsByUse x = new MapsByUse();
        Checks.due("merge(6, 0) of no key", x.merge(6, 0), 0);
        Checks.due("containsKey(6)", x.containsKey(6), true);
        Checks.due("get(6)", x.get(6), 0);
        Checks.due("merge(6, 0) again", x.merge(6, 0), NONE);
        Checks.due("containsKey(6)", x.containsKey(6), false);
        Checks.due("merge(6, 0) once more", x.merge(6, 0), 0);
    }

    private static void mergeTellsTheValueThen() {
        Checks.promise(12, "Returns the value then, or none");
        MapsByUse x = new MapsByUse();
        Checks.due("merge(1, -1) of no key", x.merge(1, -1), -1);
        Checks.due("merge(1, 2)", x.merge(1, 2), 1);
        Checks.due("merge(1, -1)", x.merge(1, -1), NONE);
        Checks.due("merge(1, 9) after it went", x.merge(1, 9), 9);
        Checks.due("get(1)", x.get(1), 9);
    }

    private static void mergeWhenFull() {
        Checks.promise(12, "Throws IllegalStateException if there is no such key and the table holds 200");
        refusesANewKeyWhenFull("merge", (x, key) -> x.merge(key, 500));
        Checks.refused("merge of a 0 and no key when full", FULL, Made::fullTable, x -> x.merge(5, 0));
        Checks.due("merge of a key that is there when full", Made.fullTable().merge(1002, 5), 7);
    }

    private static void computeIfAbsent() {
        Checks.promise(13, "Puts three times a key, and 1, as its value, if there is none");
        MapsByUse x = new MapsByUse();
        for (int key : new int[] {1, -1, 6, 8, -6, -8, MAX, MIN, 715827882, 715827883}) {
            boolean multiple = Math.floorMod(key, 7) == 0;
            Checks.due("computeIfAbsent(" + key + ")", x.computeIfAbsent(key), multiple ? NONE : (long) (3 * key + 1));
            Checks.due("get(" + key + ")", x.get(key), multiple ? NONE : (long) (3 * key + 1));
        }
        Checks.due("computeIfAbsent(2)", x.computeIfAbsent(2), 7);
        x.put(1, 0);
        x.computeIfAbsent(1);
        Checks.due("get(1), which was there", x.get(1), 0);
    }

    private static void computeIfAbsentOfAMultipleOf7() {
        Checks.promise(13, "but nothing if the key is a multiple of 7");
        MapsByUse x = new MapsByUse();
        for (int multiple : new int[] {0, 7, -7, 14, 49, 2147483646, -2147483646}) {
            Checks.due("computeIfAbsent(" + multiple + ")", x.computeIfAbsent(multiple), NONE);
            Checks.due("containsKey(" + multiple + ")", x.containsKey(multiple), false);
        }
        Checks.due("size()", x.size(), 0);
        MapsByUse y = Made.table(199);
        Checks.due("computeIfAbsent(7) beside 199", y.computeIfAbsent(7), NONE);
        Checks.due("size()", y.size(), 199);
    }

    private static void computeIfAbsentTellsTheValueThen() {
        Checks.promise(13, "Returns the value then, or none");
        MapsByUse x = new MapsByUse();
        Checks.due("computeIfAbsent(1)", x.computeIfAbsent(1), 4);
        Checks.due("computeIfAbsent(1) again", x.computeIfAbsent(1), 4);
        x.put(7, 2);
        Checks.due("computeIfAbsent(7) that is there", x.computeIfAbsent(7), 2);
        x.put(1, 0);
        Checks.due("computeIfAbsent(1) of a 0", x.computeIfAbsent(1), 0);
        Checks.due("computeIfAbsent(0)", x.computeIfAbsent(0), NONE);
    }

    private static void computeIfAbsentWhenFull() {
        Checks.promise(13, "Throws IllegalStateException if there is no such key and the table holds 200");
        // Of the keys of this look 0 and 1001 alone are multiples of 7: the one is refused, the other is there.
        refusesANewKeyWhenFull("computeIfAbsent", MapsByUse::computeIfAbsent);
        Checks.due("computeIfAbsent of a key that is there when full", Made.fullTable().computeIfAbsent(1002), 2);
    }

    private static void computeIfAbsentOfAMultipleOf7WhenFull() {
        Checks.promise(13, "also for a multiple of 7");
        for (int multiple : new int[] {0, 7, -7, 994, 2147483646}) {
            Checks.refused("computeIfAbsent(" + multiple + ") when full", FULL, Made::fullTable,
                    x -> x.computeIfAbsent(multiple));
        }
        Checks.due("computeIfAbsent of one that is there when full", Made.fullTable().computeIfAbsent(1008), 8);
    }

    private static void computeIfPresent() {
        Checks.promise(14, "Puts twice the value of a key, less a number, as its value, if there is one");
        MapsByUse x = new MapsByUse();
        x.put(1, 8);
        Checks.due("computeIfPresent(1, 5)", x.computeIfPresent(1, 5), 11);
        Checks.due("get(1)", x.get(1), 11);
        Checks.due("computeIfPresent(1, -5)", x.computeIfPresent(1, -5), 27);
        x.put(2, 0);
        Checks.due("computeIfPresent(2, 3)", x.computeIfPresent(2, 3), -3);
        Checks.due("get(2)", x.get(2), -3);
        MapsByUse y = Made.fullTable();
        Checks.due("computeIfPresent when full", y.computeIfPresent(1199, 1), 13);
        Checks.due("size()", y.size(), 200);
    }

    private static void computeIfPresentToAMultipleOf10() {
        Checks.promise(14, "if this is a multiple of 10, the key is taken out");
        for (int less : new int[] {0, -10, 10, 20, 30, -2147483630}) {
            MapsByUse x = new MapsByUse();
            x.put(1, 5);
            x.put(2, 3);
            Checks.due("computeIfPresent(1, " + less + ") of a 5", x.computeIfPresent(1, less), NONE);
            Checks.due("containsKey(1)", x.containsKey(1), false);
            Checks.due("get(2)", x.get(2), 3);
        }
        for (int less : new int[] {1, 9, 11, 5, -5, 15, 8, 2}) {
            MapsByUse x = new MapsByUse();
            x.put(1, 5);
            Checks.due("computeIfPresent(1, " + less + ") of a 5", x.computeIfPresent(1, less), 10L - less);
            Checks.due("get(1)", x.get(1), 10L - less);
        }
        MapsByUse y = new MapsByUse();
        y.put(1, 10);
        Checks.due("computeIfPresent(1, 5) of a 10", y.computeIfPresent(1, 5), 15);
        MapsByUse z = Made.fullTable();
        Checks.due("computeIfPresent to 10 when full", z.computeIfPresent(1199, 4), NONE);
        Checks.due("size()", z.size(), 199);
    }

    private static void computeIfPresentThatGoesRound() {
        Checks.promise(14, "if this is a multiple of 10, the key is taken out");
        MapsByUse x = new MapsByUse();
        // 4294967286 is no multiple of 10; as an int it goes round to -10.
        x.put(1, MAX);
        Checks.due("computeIfPresent(1, 8) goes round to -10", x.computeIfPresent(1, 8), NONE);
        // 4294967290 is a multiple of 10; as an int it goes round to -6.
        x.put(1, MAX);
        Checks.due("computeIfPresent(1, 4) goes round to -6", x.computeIfPresent(1, 4), -6);
        x.put(1, MIN);
        Checks.due("computeIfPresent(1, 0) goes round to 0", x.computeIfPresent(1, 0), NONE);
        x.put(1, MIN);
        Checks.due("computeIfPresent(1, MIN) goes round", x.computeIfPresent(1, MIN), MIN);
    }

    private static void computeIfPresentWithoutAKey() {
        Checks.promise(14, "Returns the value then, or none");
        MapsByUse x = new MapsByUse();
        Checks.due("computeIfPresent of an empty table", x.computeIfPresent(1, 1), NONE);
        x.put(2, 3);
        Checks.due("computeIfPresent of no key", x.computeIfPresent(1, 1), NONE);
        Checks.due("size(): nothing was put", x.size(), 1);
        Checks.due("computeIfPresent(2, 1)", x.computeIfPresent(2, 1), 5);
        MapsByUse y = Made.fullTable();
        Checks.due("computeIfPresent of no key when full", y.computeIfPresent(5, 1), NONE);
        Checks.due("size()", y.size(), 200);
    }
}
