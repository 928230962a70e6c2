/** Objects that stand at an edge. */
final class Made {
    private Made() {
    }

    /** A table of so many keys, 1000, 1001, and so on; the values are 0 to 63, again and again. */
    static MapsByUse table(int pairs) {
        MapsByUse x = new MapsByUse();
        fillTable(x, pairs);
        return x;
    }

    static MapsByUse fullTable() {
        return table(200);
    }

    private static void fillTable(MapsByUse x, int pairs) {
        for (int from = 0; from < pairs; from += 64) {
            x.fill(1000 + from, 1, Math.min(64, pairs - from));
        }
    }

    /** The words 0, 1, 2, and so on, each counted once. */
    static MapsByUse words(int many) {
        MapsByUse x = new MapsByUse();
        for (int word = 0; word < many; word++) {
            x.count(word);
        }
        return x;
    }

    static MapsByUse fullWords() {
        return words(200);
    }

    /** The marks 1000, 1001, and so on. */
    static MapsByUse marks(int many) {
        MapsByUse x = new MapsByUse();
        for (int i = 0; i < many; i++) {
            x.mark(1000 + i);
        }
        return x;
    }

    static MapsByUse fullMarks() {
        return marks(200);
    }

    /** A shelf of this room with so many pairs laid: 0 and 0, 1 and 10, 2 and 20, and so on. */
    static MapsByUse shelf(int room, int pairs) {
        MapsByUse x = new MapsByUse();
        x.room(room);
        layPairs(x, pairs);
        return x;
    }

    private static void layPairs(MapsByUse x, int pairs) {
        for (int key = 0; key < pairs; key++) {
            x.lay(key, 10 * key);
        }
    }

    /** The keys 1 to 4 with the values 10 to 40, in the room at first. */
    static MapsByUse fourLaid() {
        MapsByUse x = new MapsByUse();
        for (int key = 1; key <= 4; key++) {
            x.lay(key, 10 * key);
        }
        return x;
    }

    /** A table, words and marks of 200 each and a shelf of 40, all full; the table has other keys than are marked. */
    static MapsByUse fullOfAll() {
        MapsByUse x = words(200);
        x.count(7);
        fillTable(x, 200);
        x.markKeys();
        x.remove(1000);
        x.put(3, -3);
        x.room(40);
        layPairs(x, 42);
        x.use(20);
        return x;
    }
}
