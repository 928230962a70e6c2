/** Promises 36 to 50, sentence by sentence: the shelf. */
public final class ShelfTest {
    private static final int MIN = Integer.MIN_VALUE;
    private static final int MAX = Integer.MAX_VALUE;
    private static final Class<IllegalArgumentException> BAD = IllegalArgumentException.class;
    private static final Class<IndexOutOfBoundsException> NO_PLACE = IndexOutOfBoundsException.class;
    private static final int[] NO_PLACES_OF_FOUR = {-1, 4, 5, 60, MIN, MAX};
    private static final long NONE = Checks.NONE;

    public static void main(String[] args) {
        room();
        roomOneToSixty();
        roomTellsHowManyWereDropped();
        roomOutOfRange();
        lay();
        layUsesTheKey();
        layTellsTheValueBefore();
        layBeyondTheRoom();
        layIfAbsent();
        layIfAbsentUsesTheKey();
        layIfAbsentTellsWhatStays();
        layIfAbsentBeyondTheRoom();
        use();
        useOfNoKey();
        useOrDefault();
        useOrDefaultOfNoKey();
        look();
        lookIsNoUse();
        take();
        takeTellsTheValue();
        keyAt();
        keyAtOfNoPlace();
        valueAt();
        valueAtOfNoPlace();
        keyAtOfAnEmptyShelf();
        valueAtOfAnEmptyShelf();
        usedAt();
        usedAtTheLastPlace();
        usedAtOfNoKey();
        length();
        wipe();
        wipeTellsHowMany();
        wipeIsNoDrop();
        dropped();
        walkAtFirst();
        walk();
        walkThatGoesRound();
        isTrue();
        Checks.end("ShelfTest", args);
    }

    private static void keysAre(MapsByUse x, int... keys) {
        Checks.due("length()", x.length(), keys.length);
        for (int place = 0; place < keys.length && place < x.length(); place++) {
            Checks.due("keyAt(" + place + ")", x.keyAt(place), keys[place]);
        }
    }

    private static void room() {
        Checks.promise(36, "Tells the room of the shelf; more than this are dropped, from the first one on");
        MapsByUse x = Made.fourLaid();
        x.use(1);
        x.room(2);
        keysAre(x, 4, 1);
        Checks.due("valueAt(0)", x.valueAt(0), 40);
        x.lay(5, 50);
        keysAre(x, 1, 5);
        x.room(3);
        keysAre(x, 1, 5);
        x.lay(6, 60);
        keysAre(x, 1, 5, 6);
        x.lay(7, 70);
        keysAre(x, 5, 6, 7);
        x.room(1);
        keysAre(x, 7);
    }

    private static void roomOneToSixty() {
        Checks.promise(36, "1 to 60");
        MapsByUse x = new MapsByUse();
        Checks.due("room(60)", x.room(60), 0);
        for (int key = 0; key < 60; key++) {
            x.lay(key, -key);
        }
        Checks.due("length() of 60", x.length(), 60);
        Checks.due("dropped()", x.dropped(), 0);
        x.lay(60, 7);
        Checks.due("length() after a 61st", x.length(), 60);
        Checks.due("dropped()", x.dropped(), 1);
        Checks.due("keyAt(0)", x.keyAt(0), 1);
        Checks.due("keyAt(59)", x.keyAt(59), 60);
        Checks.due("valueAt(59)", x.valueAt(59), 7);
        Checks.due("usedAt(60)", x.usedAt(60), 61);
        Checks.due("room(1)", x.room(1), 59);
        keysAre(x, 60);
        x.lay(8, 80);
        keysAre(x, 8);
        Checks.due("lay over the only one", x.lay(8, 81), 80);
        keysAre(x, 8);
        Checks.due("dropped()", x.dropped(), 61);
    }

    private static void roomTellsHowManyWereDropped() {
        Checks.promise(36, "Returns how many were dropped");
        Checks.due("room(1) of none", new MapsByUse().room(1), 0);
        MapsByUse x = Made.fourLaid();
        x.lay(5, 50);
        Checks.due("room(60)", x.room(60), 0);
        Checks.due("room(5)", x.room(5), 0);
        Checks.due("room(4), just what is there", x.room(4), 0);
        Checks.due("room(3)", x.room(3), 1);
        Checks.due("room(3) again", x.room(3), 0);
        Checks.due("room(1)", x.room(1), 2);
        Checks.due("dropped()", x.dropped(), 4);
    }

    private static void roomOutOfRange() {
        Checks.promise(36, "Throws IllegalArgumentException if it is out of range");
        for (int room : new int[] {0, -1, 61, MIN, MAX}) {
            Checks.refused("room(" + room + ")", BAD, Made::fourLaid, x -> x.room(room));
            Checks.refused("room(" + room + ") of 60", BAD, () -> Made.shelf(60, 60), x -> x.room(room));
        }
    }

    private static void lay() {
        Checks.promise(37, "Lays a pair onto the shelf, in place of the value of a like key, and uses the key");
        MapsByUse x = new MapsByUse();
        x.lay(MIN, 0);
        x.lay(MAX, MIN);
        keysAre(x, MIN, MAX);
        x.lay(MIN, 5);
        keysAre(x, MAX, MIN);
        Checks.due("valueAt(0)", x.valueAt(0), MIN);
        Checks.due("valueAt(1)", x.valueAt(1), 5);
        Checks.due("size()", x.size(), 0);
    }

    private static void layUsesTheKey() {
        Checks.promise(37, "Lays a pair onto the shelf, in place of the value of a like key, and uses the key");
        MapsByUse x = Made.fourLaid();
        x.lay(2, 9);
        keysAre(x, 1, 3, 4, 2);
        Checks.due("usedAt(2)", x.usedAt(2), 5);
        Checks.due("dropped(): a full shelf has no more than before", x.dropped(), 0);
        x.lay(2, 8);
        keysAre(x, 1, 3, 4, 2);
        Checks.due("usedAt(2) at the last place", x.usedAt(2), 6);
        Checks.due("usedAt(4)", x.usedAt(4), 4);
    }

    private static void layTellsTheValueBefore() {
        Checks.promise(37, "Returns the value before, or none");
        MapsByUse x = new MapsByUse();
        Checks.due("lay(0, 0)", x.lay(0, 0), NONE);
        Checks.due("lay(0, -1)", x.lay(0, -1), 0);
        Checks.due("lay(0, MIN)", x.lay(0, MIN), -1);
        Checks.due("lay(0, 5)", x.lay(0, 5), MIN);
        x.take(0);
        Checks.due("lay(0, 5) after take", x.lay(0, 5), NONE);
        x.room(1);
        x.lay(1, 6);
        Checks.due("lay(0, 5) after it was dropped", x.lay(0, 5), NONE);
    }

    private static void layBeyondTheRoom() {
        Checks.promise(37, "Lays a pair onto the shelf, in place of the value of a like key, and uses the key");
        MapsByUse x = Made.fourLaid();
        Checks.due("lay of a fifth", x.lay(5, 50), NONE);
        keysAre(x, 2, 3, 4, 5);
        Checks.due("dropped()", x.dropped(), 1);
        Checks.due("lay over the first", x.lay(2, 21), 20);
        keysAre(x, 3, 4, 5, 2);
        Checks.due("dropped()", x.dropped(), 1);
    }

    private static void layIfAbsent() {
        Checks.promise(38, "Lays a pair onto the shelf if there is no such key");
        MapsByUse x = new MapsByUse();
        x.layIfAbsent(7, 0);
        Checks.due("valueAt(0)", x.valueAt(0), 0);
        x.layIfAbsent(7, 3);
        Checks.due("valueAt(0), a 0 that stays", x.valueAt(0), 0);
        x.layIfAbsent(MIN, MAX);
        keysAre(x, 7, MIN);
        Checks.due("valueAt(1)", x.valueAt(1), MAX);
        Checks.due("usedAt(MIN)", x.usedAt(MIN), 3);
    }

    private static void layIfAbsentUsesTheKey() {
        Checks.promise(38, "and uses the key, also if it is there already");
        MapsByUse x = Made.fourLaid();
        x.layIfAbsent(2, 9);
        keysAre(x, 1, 3, 4, 2);
        Checks.due("valueAt(3)", x.valueAt(3), 20);
        Checks.due("usedAt(2)", x.usedAt(2), 5);
        x.layIfAbsent(2, 9);
        Checks.due("usedAt(2) at the last place", x.usedAt(2), 6);
        Checks.due("dropped()", x.dropped(), 0);
    }

    private static void layIfAbsentTellsWhatStays() {
        Checks.promise(38, "Returns the value that is there already, which stays, or none");
        MapsByUse x = new MapsByUse();
        Checks.due("layIfAbsent(7, -1)", x.layIfAbsent(7, -1), NONE);
        Checks.due("layIfAbsent(7, 3)", x.layIfAbsent(7, 3), -1);
        Checks.due("layIfAbsent(7, 4)", x.layIfAbsent(7, 4), -1);
        x.take(7);
        Checks.due("layIfAbsent(7, 4) after take", x.layIfAbsent(7, 4), NONE);
        Checks.due("layIfAbsent(7, 5)", x.layIfAbsent(7, 5), 4);
    }

    private static void layIfAbsentBeyondTheRoom() {
        Checks.promise(38, "Lays a pair onto the shelf if there is no such key");
        MapsByUse x = Made.fourLaid();
        Checks.due("layIfAbsent of a fifth", x.layIfAbsent(7, 0), NONE);
        keysAre(x, 2, 3, 4, 7);
        Checks.due("dropped()", x.dropped(), 1);
        Checks.due("layIfAbsent of the one that was dropped", x.layIfAbsent(1, 11), NONE);
        keysAre(x, 3, 4, 7, 1);
        Checks.due("valueAt(3)", x.valueAt(3), 11);
        Checks.due("dropped()", x.dropped(), 2);
    }

    private static void use() {
        Checks.promise(39, "Returns the value of a key on the shelf, and uses the key, if it is there");
        MapsByUse x = Made.fourLaid();
        Checks.due("use(1)", x.use(1), 10);
        keysAre(x, 2, 3, 4, 1);
        Checks.due("usedAt(1)", x.usedAt(1), 5);
        Checks.due("valueAt(3)", x.valueAt(3), 10);
        Checks.due("use(1) at the last place", x.use(1), 10);
        keysAre(x, 2, 3, 4, 1);
        Checks.due("usedAt(1)", x.usedAt(1), 6);
        Checks.due("use(3)", x.use(3), 30);
        keysAre(x, 2, 4, 1, 3);
        Checks.due("dropped()", x.dropped(), 0);
    }

    private static void useOfNoKey() {
        Checks.promise(39, "Returns the value, or none");
        MapsByUse x = new MapsByUse();
        Checks.due("use(0) of none", x.use(0), NONE);
        x.put(9, 90);
        Checks.due("use(9), which is only in the table", x.use(9), NONE);
        Checks.due("length(): nothing was laid", x.length(), 0);
        x.lay(1, 0);
        Checks.due("usedAt(1): that was no use", x.usedAt(1), 1);
        Checks.due("use(1) of a 0", x.use(1), 0);
        Checks.due("use(2)", x.use(2), NONE);
        x.lay(2, -1);
        Checks.due("usedAt(2)", x.usedAt(2), 3);
        Checks.due("use(2) of a -1", x.use(2), -1);
    }

    private static void useOrDefault() {
        Checks.promise(40, "Returns the value of a key on the shelf, or another number, and uses the key, if it is "
                + "there");
        MapsByUse x = Made.fourLaid();
        Checks.due("useOrDefault(3, 99)", x.useOrDefault(3, 99), 30);
        keysAre(x, 1, 2, 4, 3);
        Checks.due("usedAt(3)", x.usedAt(3), 5);
        Checks.due("valueAt(3)", x.valueAt(3), 30);
        Checks.due("useOrDefault(3, 99) at the last place", x.useOrDefault(3, 99), 30);
        Checks.due("usedAt(3)", x.usedAt(3), 6);
        Checks.due("useOrDefault(1, 0)", x.useOrDefault(1, 0), 10);
        keysAre(x, 2, 4, 3, 1);
    }

    private static void useOrDefaultOfNoKey() {
        Checks.promise(40, "Returns the value, or the other number");
        MapsByUse x = new MapsByUse();
        for (int other : new int[] {0, -1, MIN, MAX}) {
            Checks.due("useOrDefault(9, " + other + ")", x.useOrDefault(9, other), other);
        }
        Checks.due("length(): nothing was laid", x.length(), 0);
        x.lay(1, 0);
        Checks.due("usedAt(1): that was no use", x.usedAt(1), 1);
        Checks.due("useOrDefault(1, 5) of a 0", x.useOrDefault(1, 5), 0);
        x.lay(2, MIN);
        Checks.due("useOrDefault(9, 5)", x.useOrDefault(9, 5), 5);
        keysAre(x, 1, 2);
        x.lay(3, 3);
        Checks.due("usedAt(3)", x.usedAt(3), 4);
    }

    private static void look() {
        Checks.promise(41, "Returns whether it is");
        MapsByUse x = new MapsByUse();
        for (int key : new int[] {0, -1, MIN, MAX}) {
            Checks.due("look(" + key + ") of none", x.look(key), false);
            x.lay(key, 5);
            Checks.due("look(" + key + ")", x.look(key), true);
        }
        Checks.due("look(5), which is only a value", x.look(5), false);
        x.put(7, 7);
        Checks.due("look(7), which is only in the table", x.look(7), false);
        x.lay(8, 8);
        Checks.due("look(0), which was dropped", x.look(0), false);
        x.take(MAX);
        Checks.due("look(MAX), which was taken", x.look(MAX), false);
        Checks.due("look(8)", x.look(8), true);
        x.wipe();
        Checks.due("look(8) after wipe", x.look(8), false);
    }

    private static void lookIsNoUse() {
        Checks.promise(41, "Tells whether a key is on the shelf, without a use");
        MapsByUse x = Made.fourLaid();
        x.look(1);
        x.look(9);
        keysAre(x, 1, 2, 3, 4);
        Checks.due("usedAt(1)", x.usedAt(1), 1);
        x.lay(5, 50);
        keysAre(x, 2, 3, 4, 5);
        Checks.due("usedAt(5)", x.usedAt(5), 5);
    }

    private static void take() {
        Checks.promise(42, "Takes a key from the shelf, with its value, without a use");
        MapsByUse x = Made.fourLaid();
        x.take(2);
        keysAre(x, 1, 3, 4);
        Checks.due("usedAt(1)", x.usedAt(1), 1);
        Checks.due("usedAt(3)", x.usedAt(3), 3);
        Checks.due("usedAt(4)", x.usedAt(4), 4);
        Checks.due("valueAt(1)", x.valueAt(1), 30);
        Checks.due("dropped()", x.dropped(), 0);
        x.take(1);
        x.take(4);
        x.take(9);
        keysAre(x, 3);
        x.lay(2, 21);
        Checks.due("usedAt(2)", x.usedAt(2), 5);
        keysAre(x, 3, 2);
    }

    private static void takeTellsTheValue() {
        Checks.promise(42, "Returns the value, or none");
        MapsByUse x = new MapsByUse();
        Checks.due("take(0) of none", x.take(0), NONE);
        x.lay(0, 0);
        x.lay(MIN, -1);
        Checks.due("take(9)", x.take(9), NONE);
        Checks.due("take(0)", x.take(0), 0);
        Checks.due("take(0) again", x.take(0), NONE);
        Checks.due("take(MIN)", x.take(MIN), -1);
        Checks.due("length()", x.length(), 0);
        x.put(3, 4);
        Checks.due("take(3), which is only in the table", x.take(3), NONE);
        Checks.due("get(3)", x.get(3), 4);
        Checks.due("take of the last of 60", Made.shelf(60, 60).take(59), 590);
    }

    private static void keyAt() {
        Checks.promise(43, "the place, from 0, the one used longest ago");
        MapsByUse x = Made.fourLaid();
        x.use(2);
        Checks.due("keyAt(0)", x.keyAt(0), 1);
        Checks.due("keyAt(1)", x.keyAt(1), 3);
        Checks.due("keyAt(2)", x.keyAt(2), 4);
        Checks.due("keyAt(3)", x.keyAt(3), 2);
        Checks.due("keyAt(0) again: no use", x.keyAt(0), 1);
        Checks.due("usedAt(1)", x.usedAt(1), 1);
        x.lay(5, 50);
        Checks.due("usedAt(5)", x.usedAt(5), 6);
        Checks.due("keyAt(59) of 60", Made.shelf(60, 60).keyAt(59), 59);
    }

    private static void keyAtOfNoPlace() {
        Checks.promise(43, "Throws IndexOutOfBoundsException if there is no such place");
        for (int place : NO_PLACES_OF_FOUR) {
            Checks.refused("keyAt(" + place + ") of four", NO_PLACE, Made::fourLaid, x -> x.keyAt(place));
        }
        Checks.refused("keyAt(60) of 60", NO_PLACE, () -> Made.shelf(60, 60), x -> x.keyAt(60));
        Checks.refused("keyAt(1) of one in a room of 60", NO_PLACE, () -> Made.shelf(60, 1), x -> x.keyAt(1));
        Checks.refused("keyAt(3) of three after take", NO_PLACE, () -> {
            MapsByUse x = Made.fourLaid();
            x.take(1);
            return x;
        }, x -> x.keyAt(3));
    }

    private static void valueAt() {
        Checks.promise(44, "Returns the value at a place, without a use");
        MapsByUse x = Made.fourLaid();
        x.lay(2, MIN);
        Checks.due("valueAt(0)", x.valueAt(0), 10);
        Checks.due("valueAt(1)", x.valueAt(1), 30);
        Checks.due("valueAt(2)", x.valueAt(2), 40);
        Checks.due("valueAt(3)", x.valueAt(3), MIN);
        Checks.due("valueAt(0) again: no use", x.valueAt(0), 10);
        Checks.due("usedAt(1)", x.usedAt(1), 1);
        x.lay(5, 50);
        Checks.due("usedAt(5)", x.usedAt(5), 6);
        Checks.due("valueAt(59) of 60", Made.shelf(60, 60).valueAt(59), 590);
    }

    private static void valueAtOfNoPlace() {
        Checks.promise(44, "Throws IndexOutOfBoundsException if there is no such place");
        for (int place : NO_PLACES_OF_FOUR) {
            Checks.refused("valueAt(" + place + ") of four", NO_PLACE, Made::fourLaid, x -> x.valueAt(place));
        }
        Checks.refused("valueAt(60) of 60", NO_PLACE, () -> Made.shelf(60, 60), x -> x.valueAt(60));
        Checks.refused("valueAt(1) of one in a room of 60", NO_PLACE, () -> Made.shelf(60, 1), x -> x.valueAt(1));
        Checks.refused("valueAt(2) of two after room(2)", NO_PLACE, () -> {
            MapsByUse x = Made.fourLaid();
            x.room(2);
            return x;
        }, x -> x.valueAt(2));
    }

    private static MapsByUse wiped() {
        MapsByUse x = Made.fourLaid();
        x.wipe();
        return x;
    }

    private static void keyAtOfAnEmptyShelf() {
        Checks.promise(43, "Throws IndexOutOfBoundsException if there is no such place");
        for (int place : new int[] {0, -1, 1, 4}) {
            Checks.refused("keyAt(" + place + ") at first", NO_PLACE, MapsByUse::new, x -> x.keyAt(place));
            Checks.refused("keyAt(" + place + ") after wipe", NO_PLACE, ShelfTest::wiped, x -> x.keyAt(place));
        }
    }

    private static void valueAtOfAnEmptyShelf() {
        Checks.promise(44, "Throws IndexOutOfBoundsException if there is no such place");
        for (int place : new int[] {0, -1, 1, 4}) {
            Checks.refused("valueAt(" + place + ") at first", NO_PLACE, MapsByUse::new, x -> x.valueAt(place));
            Checks.refused("valueAt(" + place + ") after wipe", NO_PLACE, ShelfTest::wiped, x -> x.valueAt(place));
        }
    }

    private static void usedAt() {
        Checks.promise(45, "Returns the number, from 1, of all uses");
        MapsByUse x = new MapsByUse();
        x.lay(1, 0);
        Checks.due("usedAt(1) of the first use", x.usedAt(1), 1);
        x.lay(2, 0);
        x.layIfAbsent(3, 0);
        x.layIfAbsent(2, 5);
        x.use(1);
        x.useOrDefault(3, 5);
        Checks.due("usedAt(2)", x.usedAt(2), 4);
        Checks.due("usedAt(1)", x.usedAt(1), 5);
        Checks.due("usedAt(3)", x.usedAt(3), 6);
        Checks.due("usedAt(3) again: no use", x.usedAt(3), 6);
        x.take(2);
        x.lay(2, 0);
        Checks.due("usedAt(2) after take", x.usedAt(2), 7);
    }

    private static void usedAtTheLastPlace() {
        Checks.promise(45, "also if its pair stood at the last place already");
        MapsByUse x = new MapsByUse();
        x.lay(1, 0);
        x.lay(1, 0);
        Checks.due("usedAt(1) after lay", x.usedAt(1), 2);
        x.layIfAbsent(1, 5);
        Checks.due("usedAt(1) after layIfAbsent", x.usedAt(1), 3);
        x.use(1);
        Checks.due("usedAt(1) after use", x.usedAt(1), 4);
        x.useOrDefault(1, 5);
        Checks.due("usedAt(1) after useOrDefault", x.usedAt(1), 5);
    }

    private static void usedAtOfNoKey() {
        Checks.promise(45, "0 if it is not on the shelf");
        MapsByUse x = Made.fourLaid();
        Checks.due("usedAt(9)", x.usedAt(9), 0);
        Checks.due("usedAt(0)", x.usedAt(0), 0);
        x.take(2);
        Checks.due("usedAt(2) when taken", x.usedAt(2), 0);
        x.room(2);
        Checks.due("usedAt(1) when dropped by room", x.usedAt(1), 0);
        x.lay(5, 0);
        Checks.due("usedAt(3) when dropped by lay", x.usedAt(3), 0);
        Checks.due("usedAt(4)", x.usedAt(4), 4);
        x.wipe();
        Checks.due("usedAt(5) when wiped", x.usedAt(5), 0);
        x.put(6, 6);
        Checks.due("usedAt(6), which is only in the table", x.usedAt(6), 0);
    }

    private static void length() {
        Checks.promise(46, "Returns how many pairs are on the shelf");
        MapsByUse x = Made.shelf(60, 0);
        Checks.due("length() of none", x.length(), 0);
        for (int i = 1; i <= 60; i++) {
            x.lay(i, 0);
            Checks.due("length() of " + i, x.length(), i);
        }
        x.lay(1, 1);
        Checks.due("length() after lay over one", x.length(), 60);
        x.lay(61, 0);
        Checks.due("length() after a 61st", x.length(), 60);
        x.take(30);
        Checks.due("length() after take", x.length(), 59);
        x.room(1);
        Checks.due("length() after room(1)", x.length(), 1);
    }

    private static void wipe() {
        Checks.promise(47, "Empties the shelf");
        MapsByUse x = Made.fourLaid();
        x.room(3);
        x.put(1, 1);
        x.wipe();
        Checks.due("length()", x.length(), 0);
        Checks.due("look(4)", x.look(4), false);
        Checks.due("walk()", x.walk(), 7);
        Checks.due("isTrue()", x.isTrue(), true);
        Checks.due("size()", x.size(), 1);
        for (int key = 1; key <= 4; key++) {
            x.lay(key, key);
        }
        keysAre(x, 2, 3, 4);
        Checks.due("valueAt(0)", x.valueAt(0), 2);
        Checks.due("usedAt(2)", x.usedAt(2), 6);
    }

    private static void wipeTellsHowMany() {
        Checks.promise(47, "Returns how many were there");
        Checks.due("wipe() of none", new MapsByUse().wipe(), 0);
        MapsByUse x = Made.fourLaid();
        Checks.due("wipe() of four", x.wipe(), 4);
        Checks.due("wipe() again", x.wipe(), 0);
        Checks.due("wipe() of 60", Made.shelf(60, 60).wipe(), 60);
    }

    private static void wipeIsNoDrop() {
        Checks.promise(47, "none of these counts as dropped");
        MapsByUse x = Made.fourLaid();
        x.wipe();
        Checks.due("dropped()", x.dropped(), 0);
        MapsByUse y = Made.fourLaid();
        y.lay(5, 0);
        y.wipe();
        Checks.due("dropped() after a drop", y.dropped(), 1);
    }

    private static void dropped() {
        Checks.promise(48, "Returns how many pairs were dropped since all began");
        MapsByUse x = Made.fourLaid();
        Checks.due("dropped() of none", x.dropped(), 0);
        x.lay(5, 0);
        x.layIfAbsent(6, 0);
        Checks.due("dropped() after lay and layIfAbsent", x.dropped(), 2);
        x.take(6);
        Checks.due("dropped() after take", x.dropped(), 2);
        x.room(1);
        Checks.due("dropped() after room", x.dropped(), 4);
        x.wipe();
        x.clear();
        Checks.due("dropped() after wipe and clear", x.dropped(), 4);
        x.lay(1, 1);
        x.lay(1, 2);
        Checks.due("dropped() after lay over one", x.dropped(), 4);
        x.lay(2, 2);
        Checks.due("dropped() after one more", x.dropped(), 5);
        x.lay(1, 1);
        Checks.due("dropped() of the same key twice", x.dropped(), 6);
    }

    private static void walkAtFirst() {
        Checks.promise(49, "Returns 7 at first");
        MapsByUse x = new MapsByUse();
        Checks.due("walk() of none", x.walk(), 7);
        x.lay(1, 1);
        x.take(1);
        Checks.due("walk() after take", x.walk(), 7);
        x.lay(0, 0);
        Checks.due("walk() of a 0 and 0", x.walk(), 7 * 31 * 31);
    }

    private static void walk() {
        Checks.promise(49, "for each pair, 31 times itself plus the key, then 31 times itself plus the value");
        MapsByUse x = new MapsByUse();
        x.lay(3, -2);
        Checks.due("walk() over one", x.walk(), (7L * 31L + 3L) * 31L - 2L);
        x.lay(MIN, MAX);
        long one = (7L * 31L + 3L) * 31L - 2L;
        Checks.due("walk() over two", x.walk(), (one * 31L + MIN) * 31L + MAX);
        Checks.due("usedAt(3): no use", x.usedAt(3), 1);
        keysAre(x, 3, MIN);
        x.use(3);
        long other = (7L * 31L + MIN) * 31L + MAX;
        Checks.due("walk() over two in another order", x.walk(), (other * 31L + 3L) * 31L - 2L);
        x.lay(4, 4);
        Checks.due("usedAt(4)", x.usedAt(4), 4);
    }

    private static void walkThatGoesRound() {
        Checks.promise(49, "as longs that go round");
        MapsByUse x = Made.shelf(60, 0);
        long all = 7;
        for (int key = 0; key < 60; key++) {
            x.lay(MAX - key, MIN + key);
            all = all * 31L + MAX - key;
            all = all * 31L + MIN + key;
            Checks.due("walk() over " + (key + 1), x.walk(), all);
        }
    }

    /** No call makes it false, so that what can be looked at is that it holds, and that so does what it tells of. */
    private static void isTrue() {
        Checks.promise(50, "numbers of last uses rise from the first place to the last one, and there are no more than "
                + "the room");
        MapsByUse x = new MapsByUse();
        isTrueOf(x, 4);
        for (int i = 0; i < 5; i++) {
            x.lay(i, i);
            x.layIfAbsent(i % 3, i);
            x.use(i % 4);
            x.useOrDefault(1, i);
            isTrueOf(x, 4);
        }
        for (int room = 3; room >= 1; room--) {
            x.room(room);
            isTrueOf(x, room);
            x.lay(room, 0);
            isTrueOf(x, room);
        }
        x.take(1);
        isTrueOf(x, 1);
        x.wipe();
        isTrueOf(x, 1);
        isTrueOf(Made.shelf(60, 70), 60);
    }

    private static void isTrueOf(MapsByUse x, int room) {
        Checks.due("isTrue()", x.isTrue(), true);
        Checks.due("length() is no more than " + room, x.length() <= room, true);
        int before = 0;
        for (int place = 0; place < x.length(); place++) {
            int latest = x.usedAt(x.keyAt(place));
            Checks.due("the last use at place " + place + " is later", latest > before, true);
            before = latest;
        }
    }
}
