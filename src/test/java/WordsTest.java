import java.util.NoSuchElementException;

/** Promises 24 to 28: words. */
public final class WordsTest {
    private static final Class<IllegalStateException> FULL = IllegalStateException.class;
    private static final Class<IllegalArgumentException> BAD = IllegalArgumentException.class;
    private static final int[] NO_WORDS = {-1, 18278, Integer.MIN_VALUE, Integer.MAX_VALUE};

    public static void main(String[] args) {
        countTimesForget();
        noSuchWord();
        twoHundredWords();
        mostOften();
        mostOftenOfSeveral();
        Checks.end("WordsTest");
    }

    private static void countTimesForget() {
        MapsByUse x = new MapsByUse();
        Checks.due("count(0)", x.count(0), 1);
        Checks.due("count(0)", x.count(0), 2);
        Checks.due("count(18277)", x.count(18277), 1);
        Checks.due("count(0)", x.count(0), 3);
        Checks.due("times(0)", x.times(0), 3);
        Checks.due("times(18277)", x.times(18277), 1);
        Checks.due("times(5)", x.times(5), 0);
        Checks.due("words()", x.words(), 2);
        Checks.due("forget(5)", x.forget(5), 0);
        Checks.due("words()", x.words(), 2);
        Checks.due("forget(0)", x.forget(0), 3);
        Checks.due("forget(0) again", x.forget(0), 0);
        Checks.due("times(0)", x.times(0), 0);
        Checks.due("times(18277)", x.times(18277), 1);
        Checks.due("words()", x.words(), 1);
        Checks.due("count(0) from the beginning", x.count(0), 1);
    }

    private static void noSuchWord() {
        MapsByUse x = new MapsByUse();
        x.count(7);
        for (int word : NO_WORDS) {
            Checks.throwsDue(x, "count(" + word + ")", BAD, () -> x.count(word));
            Checks.throwsDue(x, "times(" + word + ")", BAD, () -> x.times(word));
            Checks.throwsDue(x, "forget(" + word + ")", BAD, () -> x.forget(word));
        }
    }

    private static void twoHundredWords() {
        MapsByUse x = new MapsByUse();
        for (int word = 0; word < 200; word++) {
            Checks.due("count(" + word + ")", x.count(word), 1);
        }
        Checks.due("words()", x.words(), 200);
        Checks.throwsDue(x, "count of the 201st", FULL, () -> x.count(200));
        Checks.throwsDue(x, "count of no word when there are 200", BAD, () -> x.count(18278));
        Checks.due("times(200)", x.times(200), 0);
        Checks.due("count of one of 200", x.count(199), 2);
        Checks.due("forget(0)", x.forget(0), 1);
        Checks.due("count of a 200th again", x.count(200), 1);
        Checks.due("words()", x.words(), 200);
    }

    private static void mostOften() {
        MapsByUse x = new MapsByUse();
        Checks.throwsDue(x, "mostOften of none", NoSuchElementException.class, x::mostOften);
        x.count(9);
        Checks.due("mostOften()", x.mostOften(), 9);
        x.count(3);
        x.count(3);
        Checks.due("mostOften()", x.mostOften(), 3);
        x.forget(3);
        Checks.due("mostOften()", x.mostOften(), 9);
        x.forget(9);
        Checks.throwsDue(x, "mostOften of none again", NoSuchElementException.class, x::mostOften);
    }

    private static void mostOftenOfSeveral() {
        MapsByUse x = new MapsByUse();
        for (int word : new int[] {700, 26, 702, 25}) {
            x.count(word);
        }
        Checks.due("mostOften of four alike", x.mostOften(), 25);
        x.count(702);
        x.count(700);
        Checks.due("mostOften of two alike", x.mostOften(), 700);
        x.count(26);
        Checks.due("mostOften of three alike", x.mostOften(), 26);
        x.count(702);
        Checks.due("mostOften()", x.mostOften(), 702);
    }
}
