import java.math.BigInteger;
import java.util.NoSuchElementException;
import java.util.function.Consumer;
import java.util.function.Supplier;

/** The document's Terms, and its count of calls, sentence by sentence. */
public final class TermsTest {
    private static final int MIN = Integer.MIN_VALUE;
    private static final int MAX = Integer.MAX_VALUE;
    private static final int[] EDGES = {0, 1, -1, 7, -7, MIN, MIN + 1, MAX, MAX - 1, 65536, -65536, 1 << 30};
    private static final Class<IllegalStateException> FULL = IllegalStateException.class;
    private static final Class<IllegalArgumentException> BAD = IllegalArgumentException.class;
    private static final Class<IndexOutOfBoundsException> NO_PLACE = IndexOutOfBoundsException.class;
    private static final long NONE = Checks.NONE;

    public static void main(String[] args) {
        callsUpToTheLast();
        usesUpToTheLastCall();
        lastPutInAnyOrder();
        shelfInOrderOfLastUses();
        droppedIsTheOneUsedLongestAgo();
        neverMoreThanItsRoom();
        anyIntsInTheTable();
        anyIntsAsMarks();
        anyIntsOnTheShelf();
        whatIsAddedGoesRound();
        whatIsMadeOfThemGoesRound();
        longsGoRound();
        belowZeroAsALong();
        noneFromEachThatTellsIt();
        twoHundredPairs();
        twoHundredWords();
        numbersOfWords();
        eachNumberIsAWordOfItsOwn();
        twoHundredMarks();
        shelfAtFirst();
        placesFromZero();
        roomAtFirst();
        roomOneToSixty();
        usesGoToTheLastPlace();
        usesAreNumberedFromOne();
        moreThanTheRoom();
        refusedCallsChangeNothing();
        refusedMostOftenChangesNothing();
        firstDocumentedIsThrown();
        Checks.end("TermsTest", args);
    }

    private static void callsUpToTheLast() {
        Checks.terms("An object is used for at most 512 calls after it has been made");
        MapsByUse x = new MapsByUse();
        for (int i = 1; i <= 511; i++) {
            x.count(18277);
        }
        Checks.due("count at the 512th call", x.count(18277), 512);
    }

    private static void usesUpToTheLastCall() {
        Checks.terms("An object is used for at most 512 calls after it has been made");
        MapsByUse x = new MapsByUse();
        for (int i = 1; i <= 510; i++) {
            x.lay(i, -i);
        }
        Checks.due("dropped() at the 511th call", x.dropped(), 506);
        Checks.due("usedAt(510) at the 512th call", x.usedAt(510), 510);
    }

    /** Keys that are alike in their last bits, put in two orders, taken in one and put again in another. */
    private static void lastPutInAnyOrder() {
        Checks.terms("what it tells of a key is what was put for it last and not taken since, whatever else was put or "
                + "taken, in whatever order");
        for (int step : new int[] {1, -1, 16, 256, 65536, 65537, 1 << 25, MAX}) {
            MapsByUse x = new MapsByUse();
            for (int i = 0; i < 30; i++) {
                x.put(i * step, i);
            }
            for (int i = 29; i >= 0; i -= 3) {
                x.remove(i * step);
            }
            for (int i = 0; i < 30; i += 2) {
                x.put(i * step, 100 + i);
            }
            for (int i = 0; i < 30; i++) {
                long due = i % 2 == 0 ? 100 + i : i % 3 == 2 ? NONE : i;
                Checks.due("get of " + i + " steps of " + step, x.get(i * step), due);
            }
            Checks.due("size() by steps of " + step, x.size(), 25);
        }
    }

    private static void keysAre(MapsByUse x, int... keys) {
        Checks.due("length()", x.length(), keys.length);
        for (int place = 0; place < keys.length && place < x.length(); place++) {
            Checks.due("keyAt(" + place + ")", x.keyAt(place), keys[place]);
        }
        Checks.due("isTrue()", x.isTrue(), true);
    }

    private static void shelfInOrderOfLastUses() {
        Checks.terms("The shelf stands at each moment in the order of last uses");
        MapsByUse x = Made.fourLaid();
        keysAre(x, 1, 2, 3, 4);
        x.use(3);
        keysAre(x, 1, 2, 4, 3);
        x.lay(1, 0);
        keysAre(x, 2, 4, 3, 1);
        x.layIfAbsent(4, 0);
        keysAre(x, 2, 3, 1, 4);
        x.useOrDefault(2, 0);
        keysAre(x, 3, 1, 4, 2);
        x.take(1);
        keysAre(x, 3, 4, 2);
        x.lay(1, 0);
        keysAre(x, 3, 4, 2, 1);
    }

    private static void droppedIsTheOneUsedLongestAgo() {
        Checks.terms("each one that is dropped from it is the one used longest ago of those that are there");
        MapsByUse x = Made.fourLaid();
        x.use(1);
        x.lay(5, 50);
        keysAre(x, 3, 4, 1, 5);
        x.look(3);
        x.keyAt(0);
        x.usedAt(3);
        x.layIfAbsent(6, 60);
        keysAre(x, 4, 1, 5, 6);
        x.use(4);
        x.room(2);
        keysAre(x, 6, 4);
    }

    private static void neverMoreThanItsRoom() {
        Checks.terms("and there are never more than its room");
        for (int room : new int[] {1, 2, 59, 60}) {
            MapsByUse x = Made.shelf(room, 0);
            for (int key = 0; key < room + 20; key++) {
                x.lay(key, 0);
                Checks.due("length() of room " + room, x.length(), Math.min(key + 1, room));
            }
            Checks.due("isTrue()", x.isTrue(), true);
        }
    }

    private static void anyIntsInTheTable() {
        Checks.terms("Keys and values are any ints");
        MapsByUse x = new MapsByUse();
        for (int key : EDGES) {
            for (int value : EDGES) {
                x.put(key, value);
                Checks.due("get(" + key + ")", x.get(key), value);
            }
            x.put(key, ~key);
        }
        for (int key : EDGES) {
            Checks.due("get(" + key + ")", x.get(key), ~key);
        }
        Checks.due("size()", x.size(), EDGES.length);
    }

    private static void anyIntsAsMarks() {
        Checks.terms("Keys and values are any ints");
        MapsByUse x = new MapsByUse();
        for (int number : EDGES) {
            Checks.due("isMarked(" + number + ")", x.isMarked(number), false);
            Checks.due("mark(" + number + ")", x.mark(number), true);
            Checks.due("isMarked(" + number + ")", x.isMarked(number), true);
        }
        Checks.due("marked()", x.marked(), EDGES.length);
    }

    private static void anyIntsOnTheShelf() {
        Checks.terms("Keys and values are any ints");
        MapsByUse x = Made.shelf(EDGES.length, 0);
        for (int key : EDGES) {
            x.lay(key, ~key);
        }
        for (int place = 0; place < EDGES.length; place++) {
            Checks.due("keyAt(" + place + ")", x.keyAt(place), EDGES[place]);
            Checks.due("valueAt(" + place + ")", x.valueAt(place), ~EDGES[place]);
        }
        for (int key : EDGES) {
            Checks.due("use(" + key + ")", x.use(key), ~key);
        }
    }

    private static void whatIsAddedGoesRound() {
        Checks.terms("what is added to them, or made of them, goes round, as ints do");
        MapsByUse x = new MapsByUse();
        x.put(1, MAX);
        Checks.due("merge(1, 1) of the greatest", x.merge(1, 1), MIN);
        Checks.due("merge(1, -1) of the least", x.merge(1, -1), MAX);
        x.addToAll(1);
        Checks.due("get after addToAll(1) of the greatest", x.get(1), MIN);
        x.addToAll(-1);
        Checks.due("get after addToAll(-1) of the least", x.get(1), MAX);
        x.fill(MAX, 1, 2);
        Checks.due("get of the key after the greatest", x.get(MIN), 1);
        x.fill(MIN, -1, 2);
        Checks.due("get of the key ahead of the least", x.get(MAX), 1);
    }

    private static void whatIsMadeOfThemGoesRound() {
        Checks.terms("what is added to them, or made of them, goes round, as ints do");
        MapsByUse x = new MapsByUse();
        // 3 times 715827883, and 1, is 2147483650: 4294967296 less is -2147483646.
        Checks.due("computeIfAbsent above the greatest", x.computeIfAbsent(715827883), -2147483646);
        Checks.due("computeIfAbsent just not above", x.computeIfAbsent(715827881), 2147483644);
        Checks.due("computeIfAbsent below the least", x.computeIfAbsent(-715827884), 2147483645);
        x.put(1, 1 << 30);
        Checks.due("computeIfPresent of half the way round", x.computeIfPresent(1, 0), MIN);
        Checks.due("computeIfPresent less 1", x.computeIfPresent(1, 1), -1);
        Checks.due("computeIfPresent less the least", x.computeIfPresent(1, MIN), MAX - 1);
    }

    private static void longsGoRound() {
        Checks.terms("Sums that are longs go round, as longs do");
        MapsByUse x = new MapsByUse();
        x.put(MAX, MIN);
        // (1000003 * 2147483647 - 2147483648) * -2147483655, whose last 64 bits these are.
        BigInteger whole = BigInteger.valueOf(1000003L * MAX + MIN)
                .multiply(BigInteger.valueOf(MIN - 7L));
        Checks.due("the sum is beyond the longs", whole.bitLength() > 63, true);
        Checks.due("sum()", x.sum(), whole.longValue());
        for (int key = 0; key < 4; key++) {
            x.lay(MAX - key, MAX);
        }
        BigInteger walk = BigInteger.valueOf(7);
        x.room(60);
        for (int key = 4; key < 20; key++) {
            x.lay(MAX - key, MAX);
        }
        for (int key = 0; key < 20; key++) {
            walk = walk.multiply(BigInteger.valueOf(31)).add(BigInteger.valueOf(MAX - key));
            walk = walk.multiply(BigInteger.valueOf(31)).add(BigInteger.valueOf(MAX));
        }
        Checks.due("the walk is beyond the longs", walk.bitLength() > 63, true);
        Checks.due("walk()", x.walk(), walk.longValue());
    }

    private static void belowZeroAsALong() {
        Checks.terms("A value that a method returns as a long is the value");
        for (int value : new int[] {-1, MIN, 0, MAX}) {
            MapsByUse x = new MapsByUse();
            x.put(1, value);
            Checks.due("get(1)", x.get(1), (long) value);
            Checks.due("put(1, value)", x.put(1, value), (long) value);
            Checks.due("putIfAbsent(1, 5)", x.putIfAbsent(1, 5), (long) value);
            Checks.due("replace(1, value)", x.replace(1, value), (long) value);
            Checks.due("computeIfAbsent(1)", x.computeIfAbsent(1), (long) value);
            Checks.due("remove(1)", x.remove(1), (long) value);
            Checks.due("merge(1, value)", x.merge(1, value), (long) value);
            x.lay(1, value);
            Checks.due("lay(1, value)", x.lay(1, value), (long) value);
            Checks.due("layIfAbsent(1, 5)", x.layIfAbsent(1, 5), (long) value);
            Checks.due("use(1)", x.use(1), (long) value);
            Checks.due("take(1)", x.take(1), (long) value);
        }
        MapsByUse y = new MapsByUse();
        y.put(1, -1);
        Checks.due("computeIfPresent(1, -1)", y.computeIfPresent(1, -1), -1L);
        Checks.due("merge(1, -5)", y.merge(1, -5), -6L);
        Checks.due("computeIfAbsent(-1)", y.computeIfAbsent(-1), -2L);
    }

    private static void noneFromEachThatTellsIt() {
        Checks.terms("none is 4294967296");
        MapsByUse x = new MapsByUse();
        Checks.due("get(1)", x.get(1), 4294967296L);
        Checks.due("replace(1, 2)", x.replace(1, 2), 4294967296L);
        Checks.due("remove(1)", x.remove(1), 4294967296L);
        Checks.due("computeIfPresent(1, 0)", x.computeIfPresent(1, 0), 4294967296L);
        Checks.due("computeIfAbsent(7)", x.computeIfAbsent(7), 4294967296L);
        Checks.due("putIfAbsent(1, 2)", x.putIfAbsent(1, 2), 4294967296L);
        Checks.due("put(2, 5)", x.put(2, 5), 4294967296L);
        Checks.due("merge(1, -2)", x.merge(1, -2), 4294967296L);
        Checks.due("computeIfPresent(2, 0)", x.computeIfPresent(2, 0), 4294967296L);
        Checks.due("use(1)", x.use(1), 4294967296L);
        Checks.due("take(1)", x.take(1), 4294967296L);
        Checks.due("lay(1, 2)", x.lay(1, 2), 4294967296L);
        Checks.due("layIfAbsent(2, 2)", x.layIfAbsent(2, 2), 4294967296L);
    }

    private static void twoHundredPairs() {
        Checks.terms("The table holds at most 200 pairs of a key and a value, no two of a like key, none at first");
        MapsByUse x = new MapsByUse();
        Checks.due("size() at first", x.size(), 0);
        for (int key = 1; key <= 200; key++) {
            x.put(key, 0);
            x.put(key, key);
        }
        Checks.due("size() of 200 keys put twice", x.size(), 200);
        Checks.due("sumOfKeys()", x.sumOfKeys(), 20100);
        Checks.due("sumOfValues()", x.sumOfValues(), 20100);
        Checks.refused("put of a 201st", FULL, Made::fullTable, y -> y.put(5, 5));
    }

    private static void twoHundredWords() {
        Checks.terms("At most 200 words are counted, none at first");
        MapsByUse x = new MapsByUse();
        Checks.due("words() at first", x.words(), 0);
        for (int word = 0; word < 200; word++) {
            x.count(word);
            x.count(word);
        }
        Checks.due("words() of 200 counted twice", x.words(), 200);
        Checks.refused("count of a 201st", FULL, Made::fullWords, y -> y.count(200));
    }

    private static void numbersOfWords() {
        Checks.terms("A word has one to three letters, a to z, and is told by a number from 0 to 18277");
        MapsByUse x = new MapsByUse();
        for (int word : new int[] {0, 18277}) {
            Checks.due("times(" + word + ")", x.times(word), 0);
            Checks.due("count(" + word + ")", x.count(word), 1);
            Checks.due("forget(" + word + ")", x.forget(word), 1);
        }
        for (int word : new int[] {-1, 18278, MIN, MAX}) {
            Checks.refused("count(" + word + ")", BAD, MapsByUse::new, y -> y.count(word));
            Checks.refused("times(" + word + ")", BAD, MapsByUse::new, y -> y.times(word));
            Checks.refused("forget(" + word + ")", BAD, MapsByUse::new, y -> y.forget(word));
        }
    }

    /** a, z, aa, az, ba, zz, aaa and zzz: none is taken for another where the number of letters grows. */
    private static void eachNumberIsAWordOfItsOwn() {
        Checks.terms("first those of one letter, then those of two, then those of three, each of these by the "
                + "alphabet");
        int[] words = {0, 1, 25, 26, 27, 51, 52, 700, 701, 702, 703, 1377, 1378, 18276, 18277};
        MapsByUse x = new MapsByUse();
        for (int i = 0; i < words.length; i++) {
            for (int times = 0; times <= i; times++) {
                x.count(words[i]);
            }
        }
        for (int i = 0; i < words.length; i++) {
            Checks.due("times(" + words[i] + ")", x.times(words[i]), i + 1);
        }
        Checks.due("words()", x.words(), words.length);
    }

    private static void twoHundredMarks() {
        Checks.terms("At most 200 numbers are marked, none at first");
        MapsByUse x = new MapsByUse();
        Checks.due("marked() at first", x.marked(), 0);
        for (int number = 0; number < 200; number++) {
            x.mark(number);
            x.mark(number);
        }
        Checks.due("marked() of 200 marked twice", x.marked(), 200);
        Checks.refused("mark of a 201st", FULL, Made::fullMarks, y -> y.mark(5));
    }

    private static void shelfAtFirst() {
        Checks.terms("The shelf holds pairs of a key and a value, no two of a like key, none at first");
        MapsByUse x = new MapsByUse();
        Checks.due("length() at first", x.length(), 0);
        x.lay(1, 1);
        x.lay(1, 2);
        x.layIfAbsent(1, 3);
        keysAre(x, 1);
        Checks.due("valueAt(0)", x.valueAt(0), 2);
    }

    private static void placesFromZero() {
        Checks.terms("they stand from the first place to the last one, with places from 0");
        Supplier<MapsByUse> made = () -> Made.shelf(60, 60);
        MapsByUse x = made.get();
        for (int place = 0; place < 60; place++) {
            Checks.due("keyAt(" + place + ")", x.keyAt(place), place);
            Checks.due("valueAt(" + place + ")", x.valueAt(place), 10 * place);
        }
        Checks.refused("keyAt(60)", NO_PLACE, made, y -> y.keyAt(60));
        Checks.refused("keyAt(-1)", NO_PLACE, made, y -> y.keyAt(-1));
    }

    private static void roomAtFirst() {
        Checks.terms("It has a room, 1 to 60, 4 at first");
        MapsByUse x = Made.fourLaid();
        keysAre(x, 1, 2, 3, 4);
        x.lay(5, 50);
        keysAre(x, 2, 3, 4, 5);
    }

    private static void roomOneToSixty() {
        Checks.terms("It has a room, 1 to 60, 4 at first");
        Checks.due("length() of room 1", Made.shelf(1, 3).length(), 1);
        Checks.due("length() of room 60", Made.shelf(60, 63).length(), 60);
        Checks.refused("room(0)", BAD, Made::fourLaid, y -> y.room(0));
        Checks.refused("room(61)", BAD, Made::fourLaid, y -> y.room(61));
    }

    private static void usesGoToTheLastPlace() {
        Checks.terms("Some methods use a key: its pair goes to the last place");
        MapsByUse x = Made.fourLaid();
        x.use(1);
        keysAre(x, 2, 3, 4, 1);
        x.use(4);
        keysAre(x, 2, 3, 1, 4);
        x.use(4);
        keysAre(x, 2, 3, 1, 4);
        Checks.due("valueAt(2)", x.valueAt(2), 10);
        Checks.due("valueAt(3)", x.valueAt(3), 40);
    }

    private static void usesAreNumberedFromOne() {
        Checks.terms("uses are numbered from 1, since all began, whatever goes");
        MapsByUse x = new MapsByUse();
        x.lay(1, 0);
        Checks.due("usedAt(1) of the first use", x.usedAt(1), 1);
        x.take(1);
        x.lay(2, 0);
        Checks.due("usedAt(2) after a take", x.usedAt(2), 2);
        x.wipe();
        x.lay(3, 0);
        Checks.due("usedAt(3) after a wipe", x.usedAt(3), 3);
        x.lay(4, 0);
        x.room(1);
        x.lay(5, 0);
        Checks.due("usedAt(5) after drops", x.usedAt(5), 5);
        x.clear();
        x.lay(5, 0);
        Checks.due("usedAt(5) after a clear", x.usedAt(5), 6);
    }

    private static void moreThanTheRoom() {
        Checks.terms("If there are more than the room then, the first one is dropped");
        MapsByUse x = Made.fourLaid();
        x.lay(3, 31);
        x.layIfAbsent(2, 0);
        Checks.due("dropped() when there are no more", x.dropped(), 0);
        x.lay(5, 50);
        keysAre(x, 4, 3, 2, 5);
        Checks.due("dropped() when there is one more", x.dropped(), 1);
    }

    private static void refusedCallsChangeNothing() {
        Checks.terms("A method that throws an exception changes nothing");
        refusedByAll("put", FULL, x -> x.put(5, 5));
        refusedByAll("putIfAbsent", FULL, x -> x.putIfAbsent(5, 5));
        refusedByAll("merge", FULL, x -> x.merge(5, 5));
        refusedByAll("computeIfAbsent", FULL, x -> x.computeIfAbsent(5));
        refusedByAll("computeIfAbsent of a multiple of 7", FULL, x -> x.computeIfAbsent(14));
        refusedByAll("fill of too many", BAD, x -> x.fill(1001, 1, 65));
        refusedByAll("fill of too few", BAD, x -> x.fill(1001, 1, -1));
        refusedByAll("fill that begins with what is there", FULL, x -> x.fill(1198, 1, 3));
        refusedByAll("fill that ends with what is there", FULL, x -> x.fill(999, 1, 3));
        refusedByAll("putShelf", FULL, MapsByUse::putShelf);
        refusedByAll("count of no word", BAD, x -> x.count(-1));
        refusedByAll("count of a 201st", FULL, x -> x.count(200));
        refusedByAll("times of no word", BAD, x -> x.times(18278));
        refusedByAll("forget of no word", BAD, x -> x.forget(18278));
        refusedByAll("mark", FULL, x -> x.mark(5));
        refusedByAll("markKeys", FULL, MapsByUse::markKeys);
        refusedByAll("room of 0", BAD, x -> x.room(0));
        refusedByAll("room of 61", BAD, x -> x.room(61));
        refusedByAll("keyAt of -1", NO_PLACE, x -> x.keyAt(-1));
        refusedByAll("keyAt of 40", NO_PLACE, x -> x.keyAt(40));
        refusedByAll("valueAt of -1", NO_PLACE, x -> x.valueAt(-1));
        refusedByAll("valueAt of 40", NO_PLACE, x -> x.valueAt(40));
    }

    private static void refusedByAll(String call, Class<? extends RuntimeException> due, Consumer<MapsByUse> body) {
        Checks.refused(call + " when all is full", due, Made::fullOfAll, body);
    }

    private static void refusedMostOftenChangesNothing() {
        Checks.terms("A method that throws an exception changes nothing");
        Checks.refused("mostOften of no words", NoSuchElementException.class, () -> {
            MapsByUse x = Made.fourLaid();
            x.put(1, 2);
            x.mark(3);
            return x;
        }, MapsByUse::mostOften);
    }

    private static void firstDocumentedIsThrown() {
        Checks.terms("If several exceptions apply, the one that is documented first is thrown");
        Checks.refused("fill of 65 into a full table", BAD, Made::fullTable, x -> x.fill(1, 1, 65));
        Checks.refused("fill of -1 into a full table", BAD, Made::fullTable, x -> x.fill(1, 1, -1));
        Checks.refused("count of 18278 beside 200 words", BAD, Made::fullWords, x -> x.count(18278));
        Checks.refused("count of -1 beside 200 words", BAD, Made::fullWords, x -> x.count(-1));
    }
}
