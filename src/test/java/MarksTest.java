/** Promises 29 to 35: marks. */
public final class MarksTest {
    private static final int MIN = Integer.MIN_VALUE;
    private static final int MAX = Integer.MAX_VALUE;
    private static final Class<IllegalStateException> FULL = IllegalStateException.class;

    public static void main(String[] args) {
        markAndUnmark();
        twoHundredMarks();
        markKeys();
        markKeysToTheBrim();
        unmarkOthers();
        dropMarked();
        Checks.end("MarksTest");
    }

    private static void markAndUnmark() {
        MapsByUse x = new MapsByUse();
        for (int number : new int[] {0, -1, MIN, MAX}) {
            Checks.due("isMarked(" + number + ")", x.isMarked(number), false);
            Checks.due("unmark(" + number + ")", x.unmark(number), false);
            Checks.due("mark(" + number + ")", x.mark(number), true);
            Checks.due("mark(" + number + ") again", x.mark(number), false);
            Checks.due("isMarked(" + number + ")", x.isMarked(number), true);
        }
        Checks.due("marked()", x.marked(), 4);
        Checks.due("unmark(-1)", x.unmark(-1), true);
        Checks.due("unmark(-1) again", x.unmark(-1), false);
        Checks.due("isMarked(-1)", x.isMarked(-1), false);
        Checks.due("isMarked(MIN)", x.isMarked(MIN), true);
        Checks.due("isMarked(MAX)", x.isMarked(MAX), true);
        Checks.due("marked()", x.marked(), 3);
        Checks.due("size()", x.size(), 0);
    }

    /** The numbers 1000 to 1199 are marked, and the table is empty. */
    private static MapsByUse full() {
        MapsByUse x = new MapsByUse();
        x.fill(1000, 1, 64);
        x.fill(1064, 1, 64);
        x.fill(1128, 1, 64);
        x.fill(1192, 1, 8);
        Checks.due("markKeys of 200", x.markKeys(), 200);
        x.clear();
        return x;
    }

    private static void twoHundredMarks() {
        MapsByUse x = full();
        Checks.due("marked()", x.marked(), 200);
        Checks.throwsDue(x, "mark of the 201st", FULL, () -> x.mark(5));
        Checks.due("isMarked(5)", x.isMarked(5), false);
        Checks.due("mark of one of 200", x.mark(1199), false);
        Checks.due("unmark(1000)", x.unmark(1000), true);
        Checks.due("mark of a 200th again", x.mark(5), true);
        Checks.due("marked()", x.marked(), 200);
    }

    private static void markKeys() {
        MapsByUse x = new MapsByUse();
        Checks.due("markKeys of none", x.markKeys(), 0);
        x.mark(5);
        x.mark(11);
        x.fill(10, 1, 3);
        Checks.due("markKeys()", x.markKeys(), 4);
        Checks.due("marked()", x.marked(), 4);
        for (int number : new int[] {5, 10, 11, 12}) {
            Checks.due("isMarked(" + number + ")", x.isMarked(number), true);
        }
        Checks.due("isMarked(0)", x.isMarked(0), false);
        Checks.due("size()", x.size(), 3);
    }

    private static void markKeysToTheBrim() {
        MapsByUse x = full();
        Checks.due("markKeys of none when full", x.markKeys(), 200);
        x.put(1000, 1);
        x.put(1199, 1);
        Checks.due("markKeys of marked ones when full", x.markKeys(), 200);
        x.put(5, 1);
        x.put(6, 1);
        Checks.throwsDue(x, "markKeys of two more when full", FULL, x::markKeys);
        x.unmark(1100);
        Checks.throwsDue(x, "markKeys of two more into one", FULL, x::markKeys);
        Checks.due("isMarked(5)", x.isMarked(5), false);
        Checks.due("isMarked(6)", x.isMarked(6), false);
        x.remove(1000);
        x.remove(1199);
        Checks.throwsDue(x, "markKeys of just two into one", FULL, x::markKeys);
        x.unmark(1101);
        Checks.due("markKeys of two more into two", x.markKeys(), 200);
        Checks.due("isMarked(5)", x.isMarked(5), true);
    }

    private static void unmarkOthers() {
        MapsByUse x = new MapsByUse();
        Checks.due("unmarkOthers of none", x.unmarkOthers(), 0);
        x.fill(10, 1, 3);
        for (int number : new int[] {1, 2, 10, 3, 12, 4}) {
            x.mark(number);
        }
        Checks.due("unmarkOthers()", x.unmarkOthers(), 4);
        Checks.due("marked()", x.marked(), 2);
        Checks.due("isMarked(10)", x.isMarked(10), true);
        Checks.due("isMarked(12)", x.isMarked(12), true);
        Checks.due("isMarked(11)", x.isMarked(11), false);
        Checks.due("size()", x.size(), 3);
        x.clear();
        Checks.due("unmarkOthers without keys", x.unmarkOthers(), 2);
        Checks.due("marked()", x.marked(), 0);
    }

    private static void dropMarked() {
        MapsByUse x = new MapsByUse();
        Checks.due("dropMarked of none", x.dropMarked(), 0);
        x.fill(10, 1, 6);
        Checks.due("dropMarked without marks", x.dropMarked(), 0);
        for (int number : new int[] {3, 10, 11, 15}) {
            x.mark(number);
        }
        Checks.due("dropMarked()", x.dropMarked(), 3);
        Checks.due("size()", x.size(), 3);
        Checks.due("sumOfKeys()", x.sumOfKeys(), 12 + 13 + 14);
        Checks.due("get(13)", x.get(13), 3);
        Checks.due("marked()", x.marked(), 4);
        Checks.due("isMarked(10)", x.isMarked(10), true);
    }
}
