import java.util.function.Supplier;

/** Promises 29 to 35, sentence by sentence: marks. */
public final class MarksTest {
    private static final int MIN = Integer.MIN_VALUE;
    private static final int MAX = Integer.MAX_VALUE;
    private static final int[] EDGES = {0, -1, MIN, MAX};
    private static final Class<IllegalStateException> FULL = IllegalStateException.class;

    public static void main(String[] args) {
        mark();
        markOfA201st();
        markUpTo200();
        unmark();
        unmarkTellsWhetherItWasMarked();
        isMarked();
        marked();
        markKeys();
        markKeysTellsHowMany();
        markKeysBeyond200();
        markKeysUpTo200();
        unmarkOthers();
        unmarkOthersTellsHowMany();
        dropMarked();
        dropMarkedTellsHowMany();
        Checks.end("MarksTest", args);
    }

    private static void mark() {
        Checks.promise(29, "Returns whether it was not marked");
        MapsByUse x = new MapsByUse();
        for (int number : EDGES) {
            Checks.due("mark(" + number + ")", x.mark(number), true);
            Checks.due("mark(" + number + ") again", x.mark(number), false);
        }
        x.unmark(MIN);
        Checks.due("mark(MIN) after unmark", x.mark(MIN), true);
        Checks.due("mark(MAX) still", x.mark(MAX), false);
        Checks.due("marked()", x.marked(), 4);
        Checks.due("size()", x.size(), 0);
    }

    private static void markOfA201st() {
        Checks.promise(29, "Throws IllegalStateException if it is not marked and 200 are");
        for (int number : new int[] {0, 5, -1, 999, 1200, MIN, MAX}) {
            Checks.refused("mark(" + number + ") beside 200", FULL, Made::fullMarks, x -> x.mark(number));
        }
    }

    private static void markUpTo200() {
        Checks.promise(29, "Throws IllegalStateException if it is not marked and 200 are");
        Checks.due("mark of the 200th", Made.marks(199).mark(0), true);
        MapsByUse x = Made.fullMarks();
        Checks.due("mark of the first of 200", x.mark(1000), false);
        Checks.due("mark of the last of 200", x.mark(1199), false);
        x.unmark(1000);
        Checks.due("mark of another in its place", x.mark(5), true);
        Checks.due("marked()", x.marked(), 200);
    }

    private static void unmark() {
        Checks.promise(30, "Takes the mark of a number away");
        MapsByUse x = Made.marks(5);
        x.unmark(1002);
        x.unmark(5);
        for (int number = 1000; number < 1005; number++) {
            Checks.due("isMarked(" + number + ")", x.isMarked(number), number != 1002);
        }
        Checks.due("marked()", x.marked(), 4);
        MapsByUse y = Made.fullMarks();
        y.unmark(1199);
        Checks.due("isMarked of the last of 200", y.isMarked(1199), false);
        Checks.due("isMarked of the one ahead", y.isMarked(1198), true);
        Checks.due("marked()", y.marked(), 199);
    }

    private static void unmarkTellsWhetherItWasMarked() {
        Checks.promise(30, "Returns whether it was marked");
        MapsByUse x = new MapsByUse();
        for (int number : EDGES) {
            Checks.due("unmark(" + number + ") of none", x.unmark(number), false);
            x.mark(number);
        }
        for (int number : EDGES) {
            Checks.due("unmark(" + number + ")", x.unmark(number), true);
            Checks.due("unmark(" + number + ") again", x.unmark(number), false);
        }
        Checks.due("marked()", x.marked(), 0);
    }

    private static void isMarked() {
        Checks.promise(31, "Returns whether it is");
        MapsByUse x = new MapsByUse();
        for (int number : EDGES) {
            Checks.due("isMarked(" + number + ") of none", x.isMarked(number), false);
            x.mark(number);
            Checks.due("isMarked(" + number + ")", x.isMarked(number), true);
        }
        x.unmark(-1);
        Checks.due("isMarked(-1) after unmark", x.isMarked(-1), false);
        Checks.due("isMarked(MAX)", x.isMarked(MAX), true);
        x.put(8, 9);
        Checks.due("isMarked(8), which is only a key", x.isMarked(8), false);
        MapsByUse y = Made.fullMarks();
        Checks.due("isMarked of the first of 200", y.isMarked(1000), true);
        Checks.due("isMarked of the last of 200", y.isMarked(1199), true);
        Checks.due("isMarked of a 201st", y.isMarked(1200), false);
    }

    private static void marked() {
        Checks.promise(32, "Returns how many numbers are marked");
        MapsByUse x = new MapsByUse();
        Checks.due("marked() of none", x.marked(), 0);
        for (int i = 1; i <= 200; i++) {
            x.mark(-i);
            Checks.due("marked() of " + i, x.marked(), i);
        }
        x.unmark(-100);
        Checks.due("marked() after unmark", x.marked(), 199);
    }

    private static void markKeys() {
        Checks.promise(33, "Marks all keys of the table, too");
        MapsByUse x = new MapsByUse();
        x.mark(5);
        x.mark(11);
        x.fill(10, 1, 3);
        x.put(MIN, 0);
        x.markKeys();
        for (int number : new int[] {5, 10, 11, 12, MIN}) {
            Checks.due("isMarked(" + number + ")", x.isMarked(number), true);
        }
        Checks.due("isMarked(0), which is only a value", x.isMarked(0), false);
        Checks.due("isMarked(1), which is only a value", x.isMarked(1), false);
        Checks.due("size()", x.size(), 4);
        x.remove(10);
        Checks.due("isMarked(10) after its key went", x.isMarked(10), true);
    }

    private static void markKeysTellsHowMany() {
        Checks.promise(33, "Returns how many are marked then");
        MapsByUse x = new MapsByUse();
        Checks.due("markKeys of none", x.markKeys(), 0);
        x.mark(1001);
        Checks.due("markKeys of none beside one", x.markKeys(), 1);
        x.fill(1000, 1, 3);
        x.mark(5);
        Checks.due("markKeys of three, one of them marked", x.markKeys(), 4);
        Checks.due("markKeys again", x.markKeys(), 4);
        Checks.due("marked()", x.marked(), 4);
        Checks.due("markKeys of 200", Made.fullTable().markKeys(), 200);
    }

    private static Supplier<MapsByUse> keysBeside(int marks, int... keys) {
        return () -> {
            MapsByUse x = Made.marks(marks);
            for (int key : keys) {
                x.put(key, 1);
            }
            return x;
        };
    }

    private static void markKeysBeyond200() {
        Checks.promise(33, "Throws IllegalStateException if more than 200 would be");
        Checks.refused("markKeys of one more beside 200", FULL, keysBeside(200, 5), MapsByUse::markKeys);
        Checks.refused("markKeys of a last one more beside 200", FULL, keysBeside(200, 1000, 1199, 5),
                MapsByUse::markKeys);
        Checks.refused("markKeys of a first one more beside 200", FULL, keysBeside(200, 5, 1000, 1199),
                MapsByUse::markKeys);
        Checks.refused("markKeys of two beside 199", FULL, keysBeside(199, 5, 6), MapsByUse::markKeys);
        Checks.refused("markKeys of two and two marked ones beside 199", FULL, keysBeside(199, 1000, 5, 1100, 6),
                MapsByUse::markKeys);
        Checks.refused("markKeys of 200 beside one", FULL, () -> {
            MapsByUse x = Made.fullTable();
            x.mark(5);
            return x;
        }, MapsByUse::markKeys);
    }

    private static void markKeysUpTo200() {
        Checks.promise(33, "Throws IllegalStateException if more than 200 would be");
        Checks.due("markKeys of none beside 200", Made.fullMarks().markKeys(), 200);
        Checks.due("markKeys of marked ones beside 200", keysBeside(200, 1000, 1199).get().markKeys(), 200);
        MapsByUse x = keysBeside(198, 1000, 5, 1100, 6).get();
        Checks.due("markKeys of two and two marked ones beside 198", x.markKeys(), 200);
        Checks.due("isMarked(5)", x.isMarked(5), true);
        Checks.due("isMarked(6)", x.isMarked(6), true);
        MapsByUse y = Made.fullTable();
        y.mark(1199);
        Checks.due("markKeys of 200 beside one of them", y.markKeys(), 200);
    }

    private static void unmarkOthers() {
        Checks.promise(34, "Takes the marks of all numbers away that are no keys of the table");
        MapsByUse x = new MapsByUse();
        x.fill(10, 1, 3);
        for (int number : new int[] {0, 1, 10, 2, 12, MIN, MAX}) {
            x.mark(number);
        }
        x.unmarkOthers();
        for (int number : new int[] {0, 1, 2, MIN, MAX, 11}) {
            Checks.due("isMarked(" + number + ")", x.isMarked(number), false);
        }
        Checks.due("isMarked(10)", x.isMarked(10), true);
        Checks.due("isMarked(12)", x.isMarked(12), true);
        Checks.due("size()", x.size(), 3);
        x.mark(7);
        x.unmarkOthers();
        Checks.due("isMarked(7), marked last", x.isMarked(7), false);
        Checks.due("marked()", x.marked(), 2);
    }

    private static void unmarkOthersTellsHowMany() {
        Checks.promise(34, "Returns how many went");
        Checks.due("unmarkOthers of none", new MapsByUse().unmarkOthers(), 0);
        Checks.due("unmarkOthers of keys without marks", Made.table(3).unmarkOthers(), 0);
        MapsByUse x = keysBeside(200, 1000, 1100, 1199).get();
        Checks.due("unmarkOthers of 200 but three", x.unmarkOthers(), 197);
        Checks.due("unmarkOthers again", x.unmarkOthers(), 0);
        x.clear();
        Checks.due("unmarkOthers without keys", x.unmarkOthers(), 3);
        Checks.due("marked()", x.marked(), 0);
        Checks.due("unmarkOthers of 200 without keys", Made.fullMarks().unmarkOthers(), 200);
    }

    private static void dropMarked() {
        Checks.promise(35, "Takes all pairs out of the table whose keys are marked, on one walk");
        MapsByUse x = new MapsByUse();
        x.fill(10, 1, 6);
        for (int number : new int[] {3, 10, 11, 15}) {
            x.mark(number);
        }
        x.dropMarked();
        for (int key = 10; key < 16; key++) {
            Checks.due("containsKey(" + key + ")", x.containsKey(key), key >= 12 && key < 15);
        }
        Checks.due("get(13), whose value is marked", x.get(13), 3);
        for (int number : new int[] {3, 10, 11, 15}) {
            Checks.due("isMarked(" + number + "), which stays", x.isMarked(number), true);
        }
        Checks.due("marked()", x.marked(), 4);
    }

    private static void dropMarkedTellsHowMany() {
        Checks.promise(35, "Returns how many they were");
        Checks.due("dropMarked of none", new MapsByUse().dropMarked(), 0);
        Checks.due("dropMarked without marks", Made.table(6).dropMarked(), 0);
        Checks.due("dropMarked without keys", Made.marks(6).dropMarked(), 0);
        MapsByUse x = Made.fullTable();
        x.mark(1000);
        x.mark(1199);
        x.mark(5);
        Checks.due("dropMarked of two of 200", x.dropMarked(), 2);
        Checks.due("dropMarked again", x.dropMarked(), 0);
        MapsByUse y = Made.fullTable();
        y.markKeys();
        Checks.due("dropMarked of 200", y.dropMarked(), 200);
        Checks.due("size()", y.size(), 0);
        Checks.due("marked()", y.marked(), 200);
    }
}
