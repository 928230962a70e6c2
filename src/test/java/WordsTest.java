import java.util.NoSuchElementException;
import java.util.function.Supplier;

/** Promises 24 to 28, sentence by sentence: words. */
public final class WordsTest {
    private static final Class<IllegalStateException> FULL = IllegalStateException.class;
    private static final Class<IllegalArgumentException> BAD = IllegalArgumentException.class;
    private static final Class<NoSuchElementException> NO_WORD = NoSuchElementException.class;
    private static final int[] NO_WORDS = {-1, 18278, Integer.MIN_VALUE, Integer.MAX_VALUE};

    public static void main(String[] args) {
        count();
        countOfNoWord();
        countOfA201st();
        countOfNoWordBeside200();
        times();
        timesOfNoWord();
        forget();
        forgetTellsHowOften();
        forgetOfNoWord();
        words();
        mostOften();
        mostOftenOfSeveral();
        mostOftenOf200();
        mostOftenOfNone();
        Checks.end("WordsTest", args);
    }

    private static void count() {
        Checks.promise(24, "Returns how often it was counted then");
        MapsByUse x = new MapsByUse();
        for (int times = 1; times <= 50; times++) {
            Checks.due("count(0)", x.count(0), times);
            Checks.due("count(18277)", x.count(18277), times);
        }
        x.forget(0);
        Checks.due("count(0) after forget", x.count(0), 1);
        Checks.due("count(18277)", x.count(18277), 51);
    }

    private static Supplier<MapsByUse> sevenCounted() {
        return () -> {
            MapsByUse x = Made.words(3);
            x.count(7);
            x.count(7);
            return x;
        };
    }

    private static void countOfNoWord() {
        Checks.promise(24, "Throws IllegalArgumentException if there is no such word");
        for (int word : NO_WORDS) {
            Checks.refused("count(" + word + ")", BAD, sevenCounted(), x -> x.count(word));
        }
        Checks.due("count(0), the first word", new MapsByUse().count(0), 1);
        Checks.due("count(18277), the last word", new MapsByUse().count(18277), 1);
    }

    private static void countOfA201st() {
        Checks.promise(24, "Throws IllegalStateException if it was not counted yet and there are 200");
        Checks.due("count of the 200th", Made.words(199).count(18277), 1);
        for (int word : new int[] {200, 201, 702, 18277}) {
            Checks.refused("count(" + word + ") beside 200", FULL, Made::fullWords, x -> x.count(word));
        }
        MapsByUse x = Made.fullWords();
        Checks.due("count of the first of 200", x.count(0), 2);
        Checks.due("count of the last of 200", x.count(199), 2);
        Checks.due("words()", x.words(), 200);
        x.forget(0);
        Checks.due("count of another in its place", x.count(18277), 1);
        Checks.due("words()", x.words(), 200);
        Checks.refused("count of one that was forgotten", FULL, () -> {
            MapsByUse y = Made.fullWords();
            y.forget(0);
            y.count(18277);
            return y;
        }, y -> y.count(0));
    }

    private static void countOfNoWordBeside200() {
        Checks.promise(24, "Throws IllegalArgumentException if there is no such word");
        for (int word : NO_WORDS) {
            Checks.refused("count(" + word + ") beside 200", BAD, Made::fullWords, x -> x.count(word));
        }
    }

    private static void times() {
        Checks.promise(25, "Returns how often, 0 if it was not");
        MapsByUse x = new MapsByUse();
        Checks.due("times(0) of none", x.times(0), 0);
        Checks.due("times(18277) of none", x.times(18277), 0);
        Checks.due("words(): times counts nothing", x.words(), 0);
        x.count(5);
        x.count(5);
        Checks.due("times(5)", x.times(5), 2);
        Checks.due("times(5) again", x.times(5), 2);
        Checks.due("times(4)", x.times(4), 0);
        Checks.due("times(6)", x.times(6), 0);
        x.forget(5);
        Checks.due("times(5) after forget", x.times(5), 0);
        MapsByUse y = Made.fullWords();
        Checks.due("times of the last of 200", y.times(199), 1);
        Checks.due("times of a 201st", y.times(200), 0);
    }

    private static void timesOfNoWord() {
        Checks.promise(25, "Throws IllegalArgumentException if there is no such word");
        for (int word : NO_WORDS) {
            Checks.refused("times(" + word + ")", BAD, sevenCounted(), x -> x.times(word));
        }
    }

    private static void forget() {
        Checks.promise(26, "Forgets a word");
        MapsByUse x = Made.words(5);
        x.forget(2);
        x.forget(9);
        Checks.due("words()", x.words(), 4);
        for (int word = 0; word < 5; word++) {
            Checks.due("times(" + word + ")", x.times(word), word == 2 ? 0 : 1);
        }
        x.forget(0);
        x.forget(4);
        Checks.due("times(1)", x.times(1), 1);
        Checks.due("times(3)", x.times(3), 1);
        Checks.due("words()", x.words(), 2);
    }

    private static void forgetTellsHowOften() {
        Checks.promise(26, "Returns how often it was counted, 0 if it was not");
        MapsByUse x = new MapsByUse();
        Checks.due("forget(0) of none", x.forget(0), 0);
        x.count(0);
        x.count(0);
        x.count(0);
        x.count(18277);
        Checks.due("forget(5)", x.forget(5), 0);
        Checks.due("forget(0)", x.forget(0), 3);
        Checks.due("forget(0) again", x.forget(0), 0);
        Checks.due("forget(18277)", x.forget(18277), 1);
        Checks.due("forget of the last of 200", Made.fullWords().forget(199), 1);
        Checks.due("forget of a 201st", Made.fullWords().forget(200), 0);
    }

    private static void forgetOfNoWord() {
        Checks.promise(26, "Throws IllegalArgumentException if there is no such word");
        for (int word : NO_WORDS) {
            Checks.refused("forget(" + word + ")", BAD, sevenCounted(), x -> x.forget(word));
        }
    }

    private static void words() {
        Checks.promise(27, "Returns how many words are counted, each once");
        MapsByUse x = new MapsByUse();
        Checks.due("words() of none", x.words(), 0);
        for (int word = 0; word < 200; word++) {
            x.count(word);
            Checks.due("words() of " + (word + 1), x.words(), word + 1);
        }
        x.count(7);
        Checks.due("words() when one is counted twice", x.words(), 200);
        x.forget(7);
        Checks.due("words() after forget", x.words(), 199);
        x.forget(7);
        Checks.due("words() after forget again", x.words(), 199);
    }

    private static void mostOften() {
        Checks.promise(28, "Returns the word that was counted most often");
        MapsByUse x = new MapsByUse();
        x.count(9);
        Checks.due("mostOften() of one", x.mostOften(), 9);
        x.count(12);
        x.count(12);
        Checks.due("mostOften() of a later one", x.mostOften(), 12);
        x.count(3);
        x.count(3);
        x.count(3);
        Checks.due("mostOften() of a lower one", x.mostOften(), 3);
        x.forget(3);
        Checks.due("mostOften() after forget", x.mostOften(), 12);
        x.count(18277);
        x.count(18277);
        x.count(18277);
        Checks.due("mostOften() of the last word", x.mostOften(), 18277);
    }

    private static void mostOftenOfSeveral() {
        Checks.promise(28, "of several the one of the lowest number");
        MapsByUse x = new MapsByUse();
        // As texts these are zy, aa, aaa and z: the lowest number is neither the least text nor the one counted first.
        for (int word : new int[] {700, 26, 702, 25}) {
            x.count(word);
        }
        Checks.due("mostOften() of four alike", x.mostOften(), 25);
        x.count(702);
        x.count(700);
        Checks.due("mostOften() of two alike", x.mostOften(), 700);
        x.count(26);
        Checks.due("mostOften() of three alike", x.mostOften(), 26);
        x.count(702);
        Checks.due("mostOften() of none alike", x.mostOften(), 702);
        x.count(700);
        x.forget(26);
        Checks.due("mostOften() of two alike after forget", x.mostOften(), 700);
        x.count(0);
        x.count(0);
        x.count(0);
        Checks.due("mostOften() of the first word", x.mostOften(), 0);
    }

    private static void mostOftenOf200() {
        Checks.promise(28, "of several the one of the lowest number");
        MapsByUse x = new MapsByUse();
        for (int word = 199; word >= 0; word--) {
            x.count(word);
        }
        Checks.due("mostOften() of 200 alike", x.mostOften(), 0);
        x.count(199);
        Checks.due("mostOften() of the one counted first", x.mostOften(), 199);
        x.count(0);
        Checks.due("mostOften() of the first and the last", x.mostOften(), 0);
    }

    private static void mostOftenOfNone() {
        Checks.promise(28, "Throws NoSuchElementException if no word is counted");
        Checks.refused("mostOften() at first", NO_WORD, MapsByUse::new, MapsByUse::mostOften);
        Checks.refused("mostOften() when all are forgotten", NO_WORD, () -> {
            MapsByUse x = Made.fourLaid();
            x.put(1, 2);
            x.count(9);
            x.count(9);
            x.forget(9);
            return x;
        }, MapsByUse::mostOften);
    }
}
