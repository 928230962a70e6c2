import java.util.NoSuchElementException;

public final class MapsByUse {
    // Outside the ints, so that it is never taken for a value.
    private static final long NONE = 4294967296L;
    private static final int NOWHERE = -1;
    private static final int MOST_PAIRS = 200;
    private static final int MOST_AT_A_FILL = 64;
    private static final int MOST_WORDS = 200;
    private static final int LAST_WORD = 18277;
    private static final int MOST_MARKS = 200;
    private static final int MOST_ROOM = 60;
    private static final int ROOM_AT_FIRST = 4;
    // A new pair is laid before the first one is dropped.
    private static final int MOST_ON_THE_SHELF = MOST_ROOM + 1;

    private final Pairs table;
    private final Pairs counted;
    private final Row marks;
    private final Pairs shelf;
    // The number of the last use of each pair of the shelf, at the same place as the pair.
    private final Row lastUses;
    private int shelfRoom;
    private int usesSoFar;
    private int droppedSoFar;

    public MapsByUse() {
        table = new Pairs(MOST_PAIRS);
        counted = new Pairs(MOST_WORDS);
        marks = new Row(MOST_MARKS);
        shelf = new Pairs(MOST_ON_THE_SHELF);
        lastUses = new Row(MOST_ON_THE_SHELF);
        shelfRoom = ROOM_AT_FIRST;
        usesSoFar = 0;
        droppedSoFar = 0;
    }

    // the table

    public long put(int key, int value) throws IllegalStateException {
        int place = table.placeOf(key);
        if (place == NOWHERE) {
            addToTable(key, value);
            return NONE;
        }
        int before = table.valueIn(place);
        table.setValue(place, value);
        return before;
    }

    public long putIfAbsent(int key, int value) throws IllegalStateException {
        int place = table.placeOf(key);
        if (place == NOWHERE) {
            addToTable(key, value);
            return NONE;
        }
        return table.valueIn(place);
    }

    public long get(int key) {
        return table.valueOrNone(table.placeOf(key));
    }

    public int getOrDefault(int key, int other) {
        return table.valueOr(table.placeOf(key), other);
    }

    public long replace(int key, int value) {
        int place = table.placeOf(key);
        long before = table.valueOrNone(place);
        table.setValue(place, value);
        return before;
    }

    public boolean replaceTold(int key, int told, int value) {
        int place = table.placeOf(key);
        if (table.valueOrNone(place) != told) {
            return false;
        }
        table.setValue(place, value);
        return true;
    }

    public long remove(int key) {
        int place = table.placeOf(key);
        long before = table.valueOrNone(place);
        table.cutOut(place);
        return before;
    }

    public boolean removeTold(int key, int told) {
        int place = table.placeOf(key);
        if (table.valueOrNone(place) != told) {
            return false;
        }
        table.cutOut(place);
        return true;
    }

    public boolean containsKey(int key) {
        return table.hasKey(key);
    }

    public boolean containsValue(int value) {
        return table.hasValue(value);
    }

    public long merge(int key, int more) throws IllegalStateException {
        int place = table.placeOf(key);
        if (place == NOWHERE) {
            addToTable(key, more);
            return more;
        }
        int then = table.valueIn(place) + more;
        return settle(place, then, then == 0);
    }

    public long computeIfAbsent(int key) throws IllegalStateException {
        int place = table.placeOf(key);
        if (place != NOWHERE) {
            return table.valueIn(place);
        }
        // Ahead of the look for a multiple of 7: a full table throws for these, too.
        checkTableTakes(1);
        if (key % 7 == 0) {
            return NONE;
        }
        int value = 3 * key + 1;
        table.append(key, value);
        return value;
    }

    public long computeIfPresent(int key, int less) {
        int place = table.placeOf(key);
        if (place == NOWHERE) {
            return NONE;
        }
        int then = 2 * table.valueIn(place) - less;
        return settle(place, then, then % 10 == 0);
    }

    public int fill(int first, int step, int many) throws IllegalArgumentException, IllegalStateException {
        if (many < 0 || many > MOST_AT_A_FILL) {
            throw new IllegalArgumentException("a fill is of 0 to 64 keys");
        }
        checkTableTakes(newKeysOfFill(first, step, many));
        for (int i = 0; i < many; i++) {
            table.setOrAppend(first + i * step, i);
        }
        return table.held();
    }

    public int addToAll(int more) {
        for (int place = 0; place < table.held(); place++) {
            table.setValue(place, table.valueIn(place) + more);
        }
        return table.held();
    }

    public int dropBelow(int least) {
        int before = table.held();
        // From the last place on, so that what is cut out moves no pair that is still to come.
        for (int place = before - 1; place >= 0; place--) {
            if (table.valueIn(place) < least) {
                table.cutOut(place);
            }
        }
        return before - table.held();
    }

    public int putShelf() throws IllegalStateException {
        checkTableTakes(newKeysOfShelf());
        for (int place = 0; place < shelf.held(); place++) {
            table.setOrAppend(shelf.keyIn(place), shelf.valueIn(place));
        }
        return table.held();
    }

    public int size() {
        return table.held();
    }

    public int clear() {
        int before = table.held();
        table.empty();
        return before;
    }

    public long sumOfKeys() {
        long all = 0;
        for (int place = 0; place < table.held(); place++) {
            all += table.keyIn(place);
        }
        return all;
    }

    public long sumOfValues() {
        long all = 0;
        for (int place = 0; place < table.held(); place++) {
            all += table.valueIn(place);
        }
        return all;
    }

    public long sum() {
        long all = 0;
        for (int place = 0; place < table.held(); place++) {
            long key = table.keyIn(place);
            long value = table.valueIn(place);
            all += (1000003L * key + value) * (value - 7L);
        }
        return all;
    }

    private void checkTableTakes(int newKeys) throws IllegalStateException {
        if (newKeys > MOST_PAIRS - table.held()) {
            throw new IllegalStateException("the table would hold more than 200 pairs");
        }
    }

    private void addToTable(int key, int value) throws IllegalStateException {
        checkTableTakes(1);
        table.append(key, value);
    }

    private long settle(int place, int value, boolean goes) {
        if (goes) {
            table.cutOut(place);
            return NONE;
        }
        table.setValue(place, value);
        return value;
    }

    private int newKeysOfFill(int first, int step, int many) {
        int different = differentKeys(step, many);
        int found = 0;
        for (int i = 0; i < different; i++) {
            if (!table.hasKey(first + i * step)) {
                found++;
            }
        }
        return found;
    }

    // As the keys go round, the first one comes again where a multiple of the step is 0, and all others after it.
    private static int differentKeys(int step, int many) {
        for (int i = 1; i < many; i++) {
            if (i * step == 0) {
                return i;
            }
        }
        return many;
    }

    private int newKeysOfShelf() {
        int found = 0;
        for (int place = 0; place < shelf.held(); place++) {
            if (!table.hasKey(shelf.keyIn(place))) {
                found++;
            }
        }
        return found;
    }

    // words

    public int count(int word) throws IllegalArgumentException, IllegalStateException {
        checkWord(word);
        int place = counted.placeOf(word);
        if (place == NOWHERE && counted.held() >= MOST_WORDS) {
            throw new IllegalStateException("200 words are counted");
        }
        int often = counted.valueOr(place, 0) + 1;
        counted.setOrAppend(word, often);
        return often;
    }

    public int times(int word) throws IllegalArgumentException {
        checkWord(word);
        return counted.valueOr(counted.placeOf(word), 0);
    }

    public int forget(int word) throws IllegalArgumentException {
        checkWord(word);
        int place = counted.placeOf(word);
        int often = counted.valueOr(place, 0);
        counted.cutOut(place);
        return often;
    }

    public int words() {
        return counted.held();
    }

    public int mostOften() throws NoSuchElementException {
        if (counted.held() == 0) {
            throw new NoSuchElementException("no word is counted");
        }
        int best = 0;
        for (int place = 1; place < counted.held(); place++) {
            if (comesBefore(place, best)) {
                best = place;
            }
        }
        return counted.keyIn(best);
    }

    private static void checkWord(int word) throws IllegalArgumentException {
        if (word < 0 || word > LAST_WORD) {
            throw new IllegalArgumentException("a word's number is 0 to 18277");
        }
    }

    private boolean comesBefore(int place, int other) {
        int often = counted.valueIn(place);
        int otherOften = counted.valueIn(other);
        return often > otherOften || often == otherOften && counted.keyIn(place) < counted.keyIn(other);
    }

    // marks

    public boolean mark(int number) throws IllegalStateException {
        if (marks.has(number)) {
            return false;
        }
        checkMarksTake(1);
        marks.append(number);
        return true;
    }

    public boolean unmark(int number) {
        int place = marks.placeOf(number);
        marks.cutOut(place);
        return place != NOWHERE;
    }

    public boolean isMarked(int number) {
        return marks.has(number);
    }

    public int marked() {
        return marks.held();
    }

    public int markKeys() throws IllegalStateException {
        checkMarksTake(keysWithoutMark());
        for (int place = 0; place < table.held(); place++) {
            int key = table.keyIn(place);
            if (!marks.has(key)) {
                marks.append(key);
            }
        }
        return marks.held();
    }

    public int unmarkOthers() {
        int before = marks.held();
        // From the last place on, so that what is cut out moves no mark that is still to come.
        for (int place = before - 1; place >= 0; place--) {
            if (!table.hasKey(marks.at(place))) {
                marks.cutOut(place);
            }
        }
        return before - marks.held();
    }

    public int dropMarked() {
        int before = table.held();
        // From the last place on, so that what is cut out moves no pair that is still to come.
        for (int place = before - 1; place >= 0; place--) {
            if (marks.has(table.keyIn(place))) {
                table.cutOut(place);
            }
        }
        return before - table.held();
    }

    private void checkMarksTake(int newMarks) throws IllegalStateException {
        if (newMarks > MOST_MARKS - marks.held()) {
            throw new IllegalStateException("more than 200 numbers would be marked");
        }
    }

    private int keysWithoutMark() {
        int found = 0;
        for (int place = 0; place < table.held(); place++) {
            if (!marks.has(table.keyIn(place))) {
                found++;
            }
        }
        return found;
    }

    // the shelf

    public int room(int room) throws IllegalArgumentException {
        if (room < 1 || room > MOST_ROOM) {
            throw new IllegalArgumentException("a room is 1 to 60");
        }
        shelfRoom = room;
        return dropWhatIsOver();
    }

    public long lay(int key, int value) {
        int place = shelf.placeOf(key);
        long before = shelf.valueOrNone(place);
        layLast(place, key, value);
        return before;
    }

    public long layIfAbsent(int key, int value) {
        int place = shelf.placeOf(key);
        long before = shelf.valueOrNone(place);
        layLast(place, key, shelf.valueOr(place, value));
        return before;
    }

    public long use(int key) {
        int place = shelf.placeOf(key);
        if (place == NOWHERE) {
            return NONE;
        }
        int value = shelf.valueIn(place);
        layLast(place, key, value);
        return value;
    }

    public int useOrDefault(int key, int other) {
        int place = shelf.placeOf(key);
        if (place == NOWHERE) {
            return other;
        }
        int value = shelf.valueIn(place);
        layLast(place, key, value);
        return value;
    }

    public boolean look(int key) {
        return shelf.hasKey(key);
    }

    public long take(int key) {
        int place = shelf.placeOf(key);
        long before = shelf.valueOrNone(place);
        cutOutOfShelf(place);
        return before;
    }

    public int keyAt(int place) throws IndexOutOfBoundsException {
        checkPlace(place);
        return shelf.keyIn(place);
    }

    public int valueAt(int place) throws IndexOutOfBoundsException {
        checkPlace(place);
        return shelf.valueIn(place);
    }

    public int usedAt(int key) {
        int place = shelf.placeOf(key);
        return place == NOWHERE ? 0 : lastUses.at(place);
    }

    public int length() {
        return shelf.held();
    }

    public int wipe() {
        int before = shelf.held();
        shelf.empty();
        lastUses.empty();
        return before;
    }

    public int dropped() {
        return droppedSoFar;
    }

    public long walk() {
        long all = 7;
        for (int place = 0; place < shelf.held(); place++) {
            all = 31L * all + shelf.keyIn(place);
            all = 31L * all + shelf.valueIn(place);
        }
        return all;
    }

    public boolean isTrue() {
        for (int place = 1; place < lastUses.held(); place++) {
            if (lastUses.at(place - 1) >= lastUses.at(place)) {
                return false;
            }
        }
        return shelf.held() <= shelfRoom;
    }

    private void checkPlace(int place) throws IndexOutOfBoundsException {
        if (place < 0 || place >= shelf.held()) {
            throw new IndexOutOfBoundsException("there is no such place on the shelf");
        }
    }

    // The place is where the key stood, or nowhere. Each use of a key comes through here.
    private void layLast(int place, int key, int value) {
        cutOutOfShelf(place);
        usesSoFar++;
        shelf.append(key, value);
        lastUses.append(usesSoFar);
        dropWhatIsOver();
    }

    private void cutOutOfShelf(int place) {
        shelf.cutOut(place);
        lastUses.cutOut(place);
    }

    private int dropWhatIsOver() {
        int over = Math.max(shelf.held() - shelfRoom, 0);
        for (int i = 0; i < over; i++) {
            cutOutOfShelf(0);
        }
        droppedSoFar += over;
        return over;
    }

    /** A bounded row of numbers. A place that it does not have tells 0 and takes nothing. */
    private static final class Row {
        private final int[] numbers;
        private int inUse;

        Row(int bound) {
            numbers = new int[Math.max(bound, 0)];
            inUse = 0;
        }

        int held() {
            return inUse;
        }

        int placeOf(int number) {
            for (int place = 0; place < inUse; place++) {
                if (numbers[place] == number) {
                    return place;
                }
            }
            return NOWHERE;
        }

        boolean has(int number) {
            return placeOf(number) != NOWHERE;
        }

        int at(int place) {
            return isPlace(place) ? numbers[place] : 0;
        }

        void setAt(int place, int number) {
            if (isPlace(place)) {
                numbers[place] = number;
            }
        }

        void append(int number) {
            if (inUse < numbers.length) {
                numbers[inUse] = number;
                inUse++;
            }
        }

        void cutOut(int place) {
            if (isPlace(place)) {
                inUse--;
                System.arraycopy(numbers, place + 1, numbers, place, inUse - place);
            }
        }

        void empty() {
            inUse = 0;
        }

        private boolean isPlace(int place) {
            return place >= 0 && place < inUse;
        }
    }

    /** Pairs of a key and a value, in the order in which they came. A place that is not there takes nothing. */
    private static final class Pairs {
        private final Row keys;
        private final Row values;

        Pairs(int bound) {
            keys = new Row(bound);
            values = new Row(bound);
        }

        int held() {
            return keys.held();
        }

        int placeOf(int key) {
            return keys.placeOf(key);
        }

        boolean hasKey(int key) {
            return keys.has(key);
        }

        boolean hasValue(int value) {
            return values.has(value);
        }

        int keyIn(int place) {
            return keys.at(place);
        }

        int valueIn(int place) {
            return values.at(place);
        }

        int valueOr(int place, int other) {
            return place == NOWHERE ? other : values.at(place);
        }

        long valueOrNone(int place) {
            return place == NOWHERE ? NONE : values.at(place);
        }

        void setValue(int place, int value) {
            values.setAt(place, value);
        }

        void append(int key, int value) {
            keys.append(key);
            values.append(value);
        }

        void setOrAppend(int key, int value) {
            int place = keys.placeOf(key);
            if (place == NOWHERE) {
                append(key, value);
            } else {
                values.setAt(place, value);
            }
        }

        void cutOut(int place) {
            keys.cutOut(place);
            values.cutOut(place);
        }

        void empty() {
            keys.empty();
            values.empty();
        }
    }
}
