import java.math.BigInteger;
import java.util.function.Supplier;

/** Promises 15 to 23, sentence by sentence: the calls that go over the whole table, or many keys of it. */
public final class WholeTableTest {
    private static final int MIN = Integer.MIN_VALUE;
    private static final int MAX = Integer.MAX_VALUE;
    private static final Class<IllegalStateException> FULL = IllegalStateException.class;
    private static final Class<IllegalArgumentException> BAD = IllegalArgumentException.class;
    private static final long NONE = Checks.NONE;

    public static void main(String[] args) {
        fill();
        fillThatGoesRound();
        fillOfAKeyThatComesAgain();
        fillThatGoesRoundToAKeyAgain();
        fillOfNoneAndOf64();
        fillTellsHowMany();
        fillOutOfRange();
        fillBeyond200();
        fillUpTo200();
        fillOfLikeKeysUpTo200();
        addToAll();
        addToAllThatGoesRound();
        addToAllTellsHowMany();
        dropBelow();
        dropBelowOfTheEdges();
        dropBelowTellsHowMany();
        putShelf();
        putShelfLeavesTheShelf();
        putShelfTellsHowMany();
        putShelfBeyond200();
        putShelfUpTo200();
        size();
        clear();
        clearTellsHowMany();
        sumOfKeys();
        sumOfValues();
        sum();
        sumThatGoesRound();
        Checks.end("WholeTableTest", args);
    }

    private static void fill() {
        Checks.promise(15, "Puts the numbers 0, 1, 2, and so on as values of keys, one by one");
        MapsByUse x = new MapsByUse();
        x.fill(5, 3, 4);
        for (int i = 0; i < 4; i++) {
            Checks.due("get of " + i + " steps", x.get(5 + 3 * i), i);
        }
        Checks.due("get of a fifth", x.get(17), NONE);
        Checks.due("get ahead of the first", x.get(2), NONE);
        x.fill(14, -3, 5);
        for (int i = 0; i < 5; i++) {
            Checks.due("get of " + i + " steps down", x.get(14 - 3 * i), i);
        }
        Checks.due("size()", x.size(), 5);
    }

    private static void fillThatGoesRound() {
        Checks.promise(15, "a first key, then always a step more, as ints that go round");
        MapsByUse x = new MapsByUse();
        x.fill(MAX, 1, 3);
        Checks.due("get(MAX)", x.get(MAX), 0);
        Checks.due("get(MIN)", x.get(MIN), 1);
        Checks.due("get(MIN + 1)", x.get(MIN + 1), 2);
        MapsByUse y = new MapsByUse();
        y.fill(MIN, -1, 3);
        Checks.due("get(MIN)", y.get(MIN), 0);
        Checks.due("get(MAX)", y.get(MAX), 1);
        Checks.due("get(MAX - 1)", y.get(MAX - 1), 2);
        for (int step : new int[] {MAX, MIN + 1, 0x12345678, 1000000007}) {
            MapsByUse z = new MapsByUse();
            z.fill(-9, step, 64);
            int key = -9;
            for (int i = 0; i < 64; i++) {
                Checks.due("get of " + i + " steps of " + step, z.get(key), i);
                key += step;
            }
        }
    }

    private static void fillOfAKeyThatComesAgain() {
        Checks.promise(15, "a key that comes again has its later value");
        MapsByUse x = new MapsByUse();
        Checks.due("fill(3, 0, 1)", x.fill(3, 0, 1), 1);
        Checks.due("get(3)", x.get(3), 0);
        Checks.due("fill(3, 0, 2)", x.fill(3, 0, 2), 1);
        Checks.due("get(3)", x.get(3), 1);
        Checks.due("fill(3, 0, 64)", x.fill(3, 0, 64), 1);
        Checks.due("get(3)", x.get(3), 63);
        Checks.due("fill(3, 0, 0)", x.fill(3, 0, 0), 1);
        Checks.due("get(3) after a fill of none", x.get(3), 63);
    }

    private static void fillThatGoesRoundToAKeyAgain() {
        Checks.promise(15, "a key that comes again has its later value");
        MapsByUse x = new MapsByUse();
        Checks.due("fill(4, MIN, 5)", x.fill(4, MIN, 5), 2);
        Checks.due("get(4)", x.get(4), 4);
        Checks.due("get(4 + MIN)", x.get(4 + MIN), 3);
        for (int bits = 26; bits < 32; bits++) {
            MapsByUse y = new MapsByUse();
            int different = Math.min(64, 1 << 32 - bits);
            Checks.due("fill by 1 << " + bits, y.fill(0, 1 << bits, 64), different);
            for (int i = 0; i < different; i++) {
                Checks.due("get of " + i + " steps of 1 << " + bits, y.get(i << bits), 64 - different + i);
            }
        }
    }

    private static void fillOfNoneAndOf64() {
        Checks.promise(15, "how many keys, 0 to 64");
        MapsByUse x = new MapsByUse();
        Checks.due("fill(1, 1, 0)", x.fill(1, 1, 0), 0);
        Checks.due("get(1)", x.get(1), NONE);
        Checks.due("fill(1, 1, 1)", x.fill(1, 1, 1), 1);
        Checks.due("get(1)", x.get(1), 0);
        Checks.due("fill(1, 1, 64)", x.fill(1, 1, 64), 64);
        Checks.due("get(64)", x.get(64), 63);
        Checks.due("get(65)", x.get(65), NONE);
    }

    private static void fillTellsHowMany() {
        Checks.promise(15, "Returns how many the table holds then");
        MapsByUse x = new MapsByUse();
        x.put(-1, 0);
        Checks.due("fill(0, 1, 3) beside one", x.fill(0, 1, 3), 4);
        Checks.due("fill(2, 1, 3) over one", x.fill(2, 1, 3), 6);
        Checks.due("fill(0, 1, 3) over all", x.fill(0, 1, 3), 6);
        Checks.due("fill of none", x.fill(50, 1, 0), 6);
    }

    private static void fillOutOfRange() {
        Checks.promise(15, "Throws IllegalArgumentException if it is out of range");
        for (int many : new int[] {-1, 65, MIN, MAX}) {
            Checks.refused("fill of " + many, BAD, () -> Made.table(3), x -> x.fill(1001, 1, many));
            Checks.refused("fill of one key, " + many + " times", BAD, () -> Made.table(3), x -> x.fill(1001, 0, many));
            Checks.refused("fill of " + many + " when full", BAD, Made::fullTable, x -> x.fill(1, 1, many));
        }
    }

    private static void fillBeyond200() {
        Checks.promise(15, "Throws IllegalStateException if the table would hold more than 200 then");
        Checks.refused("fill of one more when full", FULL, Made::fullTable, x -> x.fill(1, 1, 1));
        Checks.refused("fill of 64 more when full", FULL, Made::fullTable, x -> x.fill(1, 1, 64));
        Checks.refused("fill of one more at the end", FULL, Made::fullTable, x -> x.fill(1137, 1, 64));
        Checks.refused("fill of one more at the beginning", FULL, Made::fullTable, x -> x.fill(999, 1, 64));
        Checks.refused("fill of one more, again and again", FULL, Made::fullTable, x -> x.fill(1, 0, 64));
        Checks.refused("fill of two into one", FULL, () -> Made.table(199), x -> x.fill(5, 1, 2));
        Checks.refused("fill of two into one, again and again", FULL, () -> Made.table(199), x -> x.fill(5, MIN, 64));
        Checks.refused("fill of 64 into 63", FULL, () -> Made.table(137), x -> x.fill(1, 1, 64));
        Checks.refused("fill of 64 into 63, half of them there", FULL, () -> Made.table(169), x -> x.fill(1137, 1, 64));
        Checks.refused("fill of 16 into 15, again and again", FULL, () -> Made.table(185), x -> x.fill(1, 1 << 28, 64));
    }

    private static void fillUpTo200() {
        Checks.promise(15, "Throws IllegalStateException if the table would hold more than 200 then");
        Checks.due("fill of none when full", Made.fullTable().fill(1, 1, 0), 200);
        MapsByUse x = Made.fullTable();
        Checks.due("fill over 64 that are there when full", x.fill(1136, 1, 64), 200);
        Checks.due("get(1199)", x.get(1199), 63);
        Checks.due("fill down over 64 that are there when full", x.fill(1189, -3, 64), 200);
        Checks.due("get(1000)", x.get(1000), 63);
        Checks.due("fill of 64 into 64", Made.table(136).fill(1, 1, 64), 200);
        Checks.due("fill of 64 into 32, half of them there", Made.table(168).fill(1136, 1, 64), 200);
        MapsByUse y = Made.table(199);
        Checks.due("fill of one and one that is there into one", y.fill(5, 1145, 2), 200);
        Checks.due("get(5)", y.get(5), 0);
        Checks.due("get(1150)", y.get(1150), 1);
    }

    private static void fillOfLikeKeysUpTo200() {
        Checks.promise(15, "Throws IllegalStateException if the table would hold more than 200 then");
        MapsByUse x = Made.table(199);
        Checks.due("fill of one into one, again and again", x.fill(7, 0, 64), 200);
        Checks.due("get(7)", x.get(7), 63);
        Checks.due("fill of one that is there when full, again and again", x.fill(7, 0, 64), 200);
        MapsByUse y = Made.table(198);
        Checks.due("fill of two into two, again and again", y.fill(7, MIN, 63), 200);
        Checks.due("get(7)", y.get(7), 62);
        Checks.due("get(7 + MIN)", y.get(7 + MIN), 61);
        Checks.due("fill of 16 into 16, again and again", Made.table(184).fill(1, 1 << 28, 64), 200);
    }

    private static void addToAll() {
        Checks.promise(16, "Adds a number to each value, by a walk over all pairs");
        MapsByUse x = new MapsByUse();
        x.fill(1, 1, 3);
        x.addToAll(2);
        x.put(4, 0);
        x.addToAll(0);
        for (int key = 1; key <= 3; key++) {
            Checks.due("get(" + key + ")", x.get(key), key + 1);
        }
        x.addToAll(-4);
        Checks.due("get(1)", x.get(1), -2);
        Checks.due("get(3), a 0 that stays", x.get(3), 0);
        Checks.due("get(4)", x.get(4), -4);
        Checks.due("sumOfKeys()", x.sumOfKeys(), 10);
        MapsByUse y = Made.fullTable();
        y.addToAll(1000);
        Checks.due("get of the first of 200", y.get(1000), 1000);
        Checks.due("get of the last of 200", y.get(1199), 1007);
    }

    private static void addToAllThatGoesRound() {
        Checks.promise(16, "Adds a number to each value, by a walk over all pairs");
        MapsByUse x = new MapsByUse();
        x.put(1, MAX);
        x.put(2, MIN);
        x.put(3, 5);
        x.addToAll(MAX);
        Checks.due("get(1)", x.get(1), -2);
        Checks.due("get(2)", x.get(2), -1);
        Checks.due("get(3)", x.get(3), MIN + 4);
        x.addToAll(MIN);
        Checks.due("get(1)", x.get(1), MAX - 1);
        Checks.due("get(3)", x.get(3), 4);
    }

    private static void addToAllTellsHowMany() {
        Checks.promise(16, "Returns how many pairs there are");
        Checks.due("addToAll of none", new MapsByUse().addToAll(1), 0);
        Checks.due("addToAll of one", Made.table(1).addToAll(0), 1);
        Checks.due("addToAll of 200", Made.fullTable().addToAll(-1), 200);
    }

    private static void dropBelow() {
        Checks.promise(17, "Takes all pairs out whose value is below a number, on one walk");
        MapsByUse x = new MapsByUse();
        x.fill(20, 1, 6);
        x.dropBelow(4);
        for (int key = 20; key < 26; key++) {
            Checks.due("containsKey(" + key + ")", x.containsKey(key), key >= 24);
        }
        x.put(1, 3);
        x.put(2, 9);
        x.put(3, 3);
        x.dropBelow(4);
        Checks.due("get(1)", x.get(1), NONE);
        Checks.due("get(2)", x.get(2), 9);
        Checks.due("get(3)", x.get(3), NONE);
        Checks.due("get(24)", x.get(24), 4);
        Checks.due("get(25)", x.get(25), 5);
        Checks.due("size()", x.size(), 3);
    }

    private static void dropBelowOfTheEdges() {
        Checks.promise(17, "Takes all pairs out whose value is below a number, on one walk");
        MapsByUse x = new MapsByUse();
        x.put(1, MIN);
        x.put(2, -1);
        x.put(3, 0);
        x.put(4, MAX);
        Checks.due("dropBelow(MIN)", x.dropBelow(MIN), 0);
        Checks.due("dropBelow(MIN + 1)", x.dropBelow(MIN + 1), 1);
        Checks.due("dropBelow(-1)", x.dropBelow(-1), 0);
        Checks.due("dropBelow(0)", x.dropBelow(0), 1);
        Checks.due("get(3)", x.get(3), 0);
        Checks.due("dropBelow(MAX)", x.dropBelow(MAX), 1);
        Checks.due("get(4)", x.get(4), MAX);
        Checks.due("size()", x.size(), 1);
    }

    private static void dropBelowTellsHowMany() {
        Checks.promise(17, "Returns how many they were");
        Checks.due("dropBelow of none", new MapsByUse().dropBelow(MAX), 0);
        MapsByUse x = Made.fullTable();
        Checks.due("dropBelow(0) of 200", x.dropBelow(0), 0);
        Checks.due("dropBelow(1) of 200", x.dropBelow(1), 4);
        Checks.due("dropBelow(1) again", x.dropBelow(1), 0);
        Checks.due("dropBelow(64)", x.dropBelow(64), 196);
        Checks.due("size()", x.size(), 0);
    }

    private static void putShelf() {
        Checks.promise(18, "Puts all pairs of the shelf into the table, each in place of what is there");
        MapsByUse x = new MapsByUse();
        x.put(1, 10);
        x.put(9, 90);
        x.lay(1, 11);
        x.lay(2, -12);
        x.lay(3, MIN);
        x.putShelf();
        Checks.due("get(1)", x.get(1), 11);
        Checks.due("get(2)", x.get(2), -12);
        Checks.due("get(3)", x.get(3), MIN);
        Checks.due("get(9)", x.get(9), 90);
        Checks.due("size()", x.size(), 4);
    }

    private static void putShelfLeavesTheShelf() {
        Checks.promise(18, "the shelf stays as it is");
        MapsByUse x = Made.fourLaid();
        x.use(2);
        x.putShelf();
        String after = Seen.of(Seen.Part.SHELF, x);
        MapsByUse y = Made.fourLaid();
        y.use(2);
        Checks.due("the shelf after putShelf is " + after + ", as without", after.equals(Seen.of(Seen.Part.SHELF, y)),
                true);
    }

    private static void putShelfTellsHowMany() {
        Checks.promise(18, "Returns how many the table holds then");
        MapsByUse x = new MapsByUse();
        Checks.due("putShelf of none", x.putShelf(), 0);
        x.put(1, 1);
        Checks.due("putShelf of none beside one", x.putShelf(), 1);
        x.lay(1, 2);
        x.lay(2, 2);
        Checks.due("putShelf of one more", x.putShelf(), 2);
        Checks.due("putShelf again", x.putShelf(), 2);
        Checks.due("putShelf of 60", Made.shelf(60, 60).putShelf(), 60);
    }

    private static Supplier<MapsByUse> laidBeside(int pairs, int... keys) {
        return () -> {
            MapsByUse x = Made.table(pairs);
            for (int key : keys) {
                x.lay(key, -1);
            }
            return x;
        };
    }

    private static void putShelfBeyond200() {
        Checks.promise(18, "Throws IllegalStateException if the table would hold more than 200 then");
        Checks.refused("putShelf of one more when full", FULL, laidBeside(200, 5), MapsByUse::putShelf);
        Checks.refused("putShelf of one more at the last place", FULL, laidBeside(200, 1000, 1199, 5),
                MapsByUse::putShelf);
        Checks.refused("putShelf of one more at the first place", FULL, laidBeside(200, 5, 1000, 1199),
                MapsByUse::putShelf);
        Checks.refused("putShelf of two into one", FULL, laidBeside(199, 5, 6), MapsByUse::putShelf);
        Checks.refused("putShelf of two and two that are there into one", FULL, laidBeside(199, 1000, 5, 1001, 6),
                MapsByUse::putShelf);
        Supplier<MapsByUse> sixty = () -> {
            MapsByUse x = Made.shelf(60, 60);
            x.fill(1000, 1, 64);
            x.fill(1064, 1, 64);
            x.fill(1128, 1, 13);
            return x;
        };
        Checks.refused("putShelf of 60 beside 141", FULL, sixty, MapsByUse::putShelf);
    }

    private static void putShelfUpTo200() {
        Checks.promise(18, "Throws IllegalStateException if the table would hold more than 200 then");
        Checks.due("putShelf of none when full", Made.fullTable().putShelf(), 200);
        MapsByUse x = laidBeside(200, 1000, 1100, 1199).get();
        Checks.due("putShelf of keys that are there when full", x.putShelf(), 200);
        Checks.due("get(1000)", x.get(1000), -1);
        Checks.due("get(1199)", x.get(1199), -1);
        MapsByUse y = laidBeside(198, 1000, 5, 6, 1100).get();
        Checks.due("putShelf of two into two", y.putShelf(), 200);
        Checks.due("get(5)", y.get(5), -1);
        Checks.due("get(6)", y.get(6), -1);
        MapsByUse z = Made.shelf(60, 60);
        z.fill(1000, 1, 64);
        z.fill(1064, 1, 64);
        z.fill(1128, 1, 12);
        Checks.due("putShelf of 60 beside 140", z.putShelf(), 200);
        Checks.due("get(59)", z.get(59), 590);
    }

    private static void size() {
        Checks.promise(19, "Returns how many pairs the table holds");
        MapsByUse x = new MapsByUse();
        Checks.due("size() of none", x.size(), 0);
        for (int i = 1; i <= 200; i++) {
            x.put(-i, 0);
            Checks.due("size() of " + i, x.size(), i);
        }
        x.put(-200, 1);
        Checks.due("size() after a put over one", x.size(), 200);
        x.remove(-1);
        Checks.due("size() after remove", x.size(), 199);
    }

    private static void clear() {
        Checks.promise(20, "Empties the table");
        MapsByUse x = Made.fullTable();
        x.count(1);
        x.mark(2);
        x.lay(3, 4);
        x.clear();
        Checks.due("size()", x.size(), 0);
        Checks.due("get(1000)", x.get(1000), NONE);
        Checks.due("containsKey(1199)", x.containsKey(1199), false);
        Checks.due("containsValue(63)", x.containsValue(63), false);
        Checks.due("sumOfKeys()", x.sumOfKeys(), 0);
        Checks.due("words()", x.words(), 1);
        Checks.due("marked()", x.marked(), 1);
        Checks.due("length()", x.length(), 1);
        x.put(1000, 3);
        Checks.due("size() after put", x.size(), 1);
        Checks.due("sumOfValues() after put", x.sumOfValues(), 3);
    }

    private static void clearTellsHowMany() {
        Checks.promise(20, "Returns how many pairs it held");
        Checks.due("clear() of none", new MapsByUse().clear(), 0);
        MapsByUse x = Made.fullTable();
        Checks.due("clear() of 200", x.clear(), 200);
        Checks.due("clear() again", x.clear(), 0);
    }

    private static void sumOfKeys() {
        Checks.promise(21, "Returns the sum of all keys");
        MapsByUse x = new MapsByUse();
        Checks.due("sumOfKeys() of none", x.sumOfKeys(), 0);
        x.put(MAX, 1);
        x.put(MAX - 1, 1);
        Checks.due("sumOfKeys() above the ints", x.sumOfKeys(), 4294967293L);
        x.put(MIN, 1);
        x.put(MIN + 1, 1);
        x.put(MIN + 2, 1);
        Checks.due("sumOfKeys() below the ints", x.sumOfKeys(), -2147483648L);
        MapsByUse y = new MapsByUse();
        y.fill(MIN, 1, 64);
        y.fill(MIN + 64, 1, 64);
        y.fill(MIN + 128, 1, 64);
        y.fill(MIN + 192, 1, 8);
        Checks.due("sumOfKeys() of the 200 least", y.sumOfKeys(), 200L * MIN + 19900L);
    }

    private static void sumOfValues() {
        Checks.promise(22, "Returns the sum of all values");
        MapsByUse x = new MapsByUse();
        Checks.due("sumOfValues() of none", x.sumOfValues(), 0);
        x.put(1, MIN);
        x.put(2, MIN);
        x.put(3, -1);
        Checks.due("sumOfValues() below the ints", x.sumOfValues(), -4294967297L);
        for (int key = 1; key <= 3; key++) {
            x.put(key, MAX);
        }
        Checks.due("sumOfValues() above the ints", x.sumOfValues(), 6442450941L);
        MapsByUse y = Made.fullTable();
        Checks.due("sumOfValues() of 200", y.sumOfValues(), 3L * 2016L + 28L);
    }

    private static void sum() {
        Checks.promise(23, "Returns the sum, over all pairs, of the products of two numbers each: 1000003 times the "
                + "key plus the value, and the value less 7");
        MapsByUse x = new MapsByUse();
        Checks.due("sum() of none", x.sum(), 0);
        x.put(2, 3);
        Checks.due("sum() of one", x.sum(), 2000009L * -4L);
        x.put(0, 0);
        Checks.due("sum() beside a 0 and 0", x.sum(), 2000009L * -4L);
        x.put(-1, 7);
        Checks.due("sum() beside a value of 7", x.sum(), 2000009L * -4L);
        x.put(-1, 8);
        Checks.due("sum() of a key below 0", x.sum(), 2000009L * -4L - 999995L);
    }

    private static void sumThatGoesRound() {
        Checks.promise(23, "all are longs from the beginning, which go round");
        MapsByUse x = new MapsByUse();
        BigInteger whole = BigInteger.ZERO;
        for (int key : new int[] {MAX, MAX - 1, MIN, 3000}) {
            for (int value : new int[] {MAX, MIN, MIN + 6, 0}) {
                x.put(key, value);
                BigInteger first = BigInteger.valueOf(1000003).multiply(BigInteger.valueOf(key))
                        .add(BigInteger.valueOf(value));
                BigInteger product = first.multiply(BigInteger.valueOf(value).subtract(BigInteger.valueOf(7)));
                Checks.due("sum() beside (" + key + ", " + value + ")", x.sum(), whole.add(product).longValue());
                if (value == 0) {
                    whole = whole.add(product);
                }
            }
        }
        x.put(MAX, MAX);
        Checks.due("the first product is beyond the longs",
                BigInteger.valueOf(1000003L * MAX + MAX).multiply(BigInteger.valueOf(MAX - 7L)).bitLength() > 63, true);
    }
}
