/** What can be seen of an object, in parts, each of them by fewer than 260 calls. A look may change the object. */
final class Seen {
    enum Part { TABLE, WORDS, MARKS, SHELF }

    private static final int[] EDGES = {Integer.MIN_VALUE, Integer.MIN_VALUE + 1, Integer.MAX_VALUE - 1,
        Integer.MAX_VALUE, 18277};

    private Seen() {
    }

    static String of(Part part, MapsByUse x) {
        switch (part) {
            case TABLE:
                return table(x);
            case WORDS:
                return words(x);
            case MARKS:
                return marks(x);
            default:
                return shelf(x);
        }
    }

    private static String table(MapsByUse x) {
        StringBuilder all = new StringBuilder();
        all.append(x.size()).append(" pairs, sums ").append(x.sumOfKeys()).append(' ').append(x.sumOfValues());
        all.append(' ').append(x.sum());
        for (int i = 0; i < 240; i++) {
            long value = x.get(number(i));
            all.append(value == Checks.NONE ? "" : " " + number(i) + "=" + value);
        }
        return all.toString();
    }

    private static String words(MapsByUse x) {
        StringBuilder all = new StringBuilder();
        all.append(x.words()).append(" words");
        for (int word = 0; word < 240; word++) {
            int often = x.times(word);
            all.append(often == 0 ? "" : " " + word + "=" + often);
        }
        return all.append(" and ").append(x.times(18277)).toString();
    }

    private static String marks(MapsByUse x) {
        StringBuilder all = new StringBuilder();
        all.append(x.marked()).append(" marks");
        for (int i = 0; i < 240; i++) {
            all.append(x.isMarked(number(i)) ? " " + number(i) : "");
        }
        return all.toString();
    }

    /** The numbers that the tests use: the edges, then those about 0, then those from 995 on. */
    private static int number(int i) {
        if (i < EDGES.length) {
            return EDGES[i];
        }
        return i < 30 ? i - 15 : i + 965;
    }

    /** Its room and the number of uses are seen by what is laid at the end. */
    private static String shelf(MapsByUse x) {
        StringBuilder all = new StringBuilder();
        int length = x.length();
        all.append(length).append(" laid, walk ").append(x.walk()).append(", dropped ").append(x.dropped());
        all.append(", true ").append(x.isTrue());
        for (int place = 0; place < length; place++) {
            int key = x.keyAt(place);
            all.append(' ').append(key).append('=').append(x.valueAt(place)).append('@').append(x.usedAt(key));
        }
        for (int i = 0; i < 61; i++) {
            x.lay(-5000 - i, i);
        }
        return all.append(", then ").append(x.length()).append('@').append(x.usedAt(-5060)).toString();
    }
}
