import java.util.ArrayList;
import java.util.Collections;
import java.util.HashMap;
import java.util.HashSet;
import java.util.LinkedHashMap;
import java.util.List;
import java.util.Map;
import java.util.NoSuchElementException;
import java.util.Set;

/** The document told once more, by the library's own maps and sets; its methods bear the face's names. */
public final class LibraryModel {
    private static final long NONE = 4294967296L;
    private static final int MOST = 200;

    private final Map<Integer, Integer> table = new HashMap<>();
    private final Map<String, Integer> words = new HashMap<>();
    private final Set<Integer> marks = new HashSet<>();
    private final Map<Integer, Integer> lastUses = new HashMap<>();
    private int room = 4;
    private int uses = 0;
    private int drops = 0;
    private final LinkedHashMap<Integer, Integer> shelf = new LinkedHashMap<>(16, 0.75f, true);

    private static long orNone(Integer value) {
        return value == null ? NONE : value;
    }

    private void refuseFullTable(int key) {
        if (!table.containsKey(key) && table.size() == MOST) {
            throw new IllegalStateException();
        }
    }

    public long put(int key, int value) {
        refuseFullTable(key);
        return orNone(table.put(key, value));
    }

    public long putIfAbsent(int key, int value) {
        refuseFullTable(key);
        return orNone(table.putIfAbsent(key, value));
    }

    public long get(int key) {
        return orNone(table.get(key));
    }

    public int getOrDefault(int key, int other) {
        return table.getOrDefault(key, other);
    }

    public long replace(int key, int value) {
        return orNone(table.replace(key, value));
    }

    public boolean replaceTold(int key, int told, int value) {
        return table.replace(key, told, value);
    }

    public long remove(int key) {
        return orNone(table.remove(key));
    }

    public boolean removeTold(int key, int told) {
        return table.remove(key, told);
    }

    public boolean containsKey(int key) {
        return table.containsKey(key);
    }

    public boolean containsValue(int value) {
        return table.containsValue(value);
    }

    public long merge(int key, int more) {
        refuseFullTable(key);
        return orNone(table.merge(key, more, (a, b) -> a + b == 0 ? null : Integer.valueOf(a + b)));
    }

    public long computeIfAbsent(int key) {
        refuseFullTable(key);
        return orNone(table.computeIfAbsent(key, k -> k % 7 == 0 ? null : Integer.valueOf(3 * k + 1)));
    }

    public long computeIfPresent(int key, int less) {
        return orNone(table.computeIfPresent(key,
                (k, v) -> (2 * v - less) % 10 == 0 ? null : Integer.valueOf(2 * v - less)));
    }

    public int fill(int first, int step, int many) {
        if (many < 0 || many > 64) {
            throw new IllegalArgumentException();
        }
        Map<Integer, Integer> more = new HashMap<>();
        int key = first;
        for (int i = 0; i < many; i++) {
            more.put(key, i);
            key += step;
        }
        return putAll(more);
    }

    private int putAll(Map<Integer, Integer> more) {
        Map<Integer, Integer> then = new HashMap<>(table);
        then.putAll(more);
        if (then.size() > MOST) {
            throw new IllegalStateException();
        }
        table.putAll(more);
        return table.size();
    }

    public int addToAll(int more) {
        table.replaceAll((key, value) -> value + more);
        return table.size();
    }

    public int dropBelow(int least) {
        int before = table.size();
        table.values().removeIf(value -> value < least);
        return before - table.size();
    }

    public int putShelf() {
        return putAll(shelf);
    }

    public int size() {
        return table.size();
    }

    public int clear() {
        int before = table.size();
        table.clear();
        return before;
    }

    public long sumOfKeys() {
        return table.keySet().stream().mapToLong(key -> key).sum();
    }

    public long sumOfValues() {
        return table.values().stream().mapToLong(value -> value).sum();
    }

    public long sum() {
        return table.entrySet().stream()
                .mapToLong(pair -> (1000003L * pair.getKey() + pair.getValue()) * (pair.getValue() - 7L)).sum();
    }

    private static String text(int word) {
        if (word < 0 || word > 18277) {
            throw new IllegalArgumentException();
        }
        StringBuilder letters = new StringBuilder();
        for (int rest = word; rest >= 0; rest = rest / 26 - 1) {
            letters.append((char) ('a' + rest % 26));
        }
        return letters.reverse().toString();
    }

    private static int number(String text) {
        int number = 0;
        for (char letter : text.toCharArray()) {
            number = number * 26 + letter - 'a' + 1;
        }
        return number - 1;
    }

    public int count(int word) {
        String text = text(word);
        if (!words.containsKey(text) && words.size() == MOST) {
            throw new IllegalStateException();
        }
        return words.merge(text, 1, Integer::sum);
    }

    public int times(int word) {
        return words.getOrDefault(text(word), 0);
    }

    public int forget(int word) {
        Integer often = words.remove(text(word));
        return often == null ? 0 : often;
    }

    public int words() {
        return words.size();
    }

    public int mostOften() {
        if (words.isEmpty()) {
            throw new NoSuchElementException();
        }
        int often = Collections.max(words.values());
        return words.keySet().stream().filter(text -> words.get(text) == often)
                .mapToInt(LibraryModel::number).min().getAsInt();
    }

    public boolean mark(int number) {
        if (!marks.contains(number) && marks.size() == MOST) {
            throw new IllegalStateException();
        }
        return marks.add(number);
    }

    public boolean unmark(int number) {
        return marks.remove(number);
    }

    public boolean isMarked(int number) {
        return marks.contains(number);
    }

    public int marked() {
        return marks.size();
    }

    public int markKeys() {
        Set<Integer> then = new HashSet<>(marks);
        then.addAll(table.keySet());
        if (then.size() > MOST) {
            throw new IllegalStateException();
        }
        marks.addAll(table.keySet());
        return marks.size();
    }

    public int unmarkOthers() {
        int before = marks.size();
        marks.retainAll(table.keySet());
        return before - marks.size();
    }

    public int dropMarked() {
        int before = table.size();
        table.keySet().removeAll(marks);
        return before - table.size();
    }

    public int room(int room) {
        if (room < 1 || room > 60) {
            throw new IllegalArgumentException();
        }
        this.room = room;
        return dropWhatIsOver();
    }

    private int dropWhatIsOver() {
        int before = shelf.size();
        while (shelf.size() > room) {
            shelf.remove(shelf.keySet().iterator().next());
        }
        drops += before - shelf.size();
        return before - shelf.size();
    }

    private void used(int key) {
        uses++;
        lastUses.put(key, uses);
        dropWhatIsOver();
    }

    public long lay(int key, int value) {
        long before = orNone(shelf.put(key, value));
        used(key);
        return before;
    }

    public long layIfAbsent(int key, int value) {
        long before = orNone(shelf.putIfAbsent(key, value));
        used(key);
        return before;
    }

    public long use(int key) {
        Integer value = shelf.get(key);
        if (value != null) {
            used(key);
        }
        return orNone(value);
    }

    public int useOrDefault(int key, int other) {
        boolean there = shelf.containsKey(key);
        int value = shelf.getOrDefault(key, other);
        if (there) {
            used(key);
        }
        return value;
    }

    public boolean look(int key) {
        return shelf.containsKey(key);
    }

    public long take(int key) {
        return orNone(shelf.remove(key));
    }

    private <T> T at(List<T> row, int place) {
        if (place < 0 || place >= row.size()) {
            throw new IndexOutOfBoundsException();
        }
        return row.get(place);
    }

    public int keyAt(int place) {
        return at(new ArrayList<>(shelf.keySet()), place);
    }

    public int valueAt(int place) {
        return at(new ArrayList<>(shelf.values()), place);
    }

    public int usedAt(int key) {
        return shelf.containsKey(key) ? lastUses.get(key) : 0;
    }

    public int length() {
        return shelf.size();
    }

    public int wipe() {
        int before = shelf.size();
        shelf.clear();
        return before;
    }

    public int dropped() {
        return drops;
    }

    public long walk() {
        long all = 7;
        for (Map.Entry<Integer, Integer> pair : shelf.entrySet()) {
            all = all * 31 + pair.getKey();
            all = all * 31 + pair.getValue();
        }
        return all;
    }

    public boolean isTrue() {
        return true;
    }
}
