/** The example of README.md: each call answers what is written behind it. */
public final class ReadmeTest {
    private ReadmeTest() {
    }

    public static void main(String[] args) {
        MapsByUse x = new MapsByUse();
        Checks.due("put(1, 5)", x.put(1, 5), 4294967296L);
        Checks.due("put(1, 7)", x.put(1, 7), 5);
        Checks.due("merge(1, -7)", x.merge(1, -7), 4294967296L);
        Checks.due("fill(10, 2, 3)", x.fill(10, 2, 3), 3);
        Checks.due("get(14)", x.get(14), 2);
        Checks.due("count(26)", x.count(26), 1);
        Checks.due("mark(12)", x.mark(12), true);
        Checks.due("dropMarked()", x.dropMarked(), 1);
        x.lay(3, 30);
        x.lay(4, 40);
        Checks.due("use(3)", x.use(3), 30);
        Checks.due("room(1)", x.room(1), 1);
        Checks.due("look(3)", x.look(3), true);
        Checks.due("putShelf()", x.putShelf(), 3);
        Checks.due("get(3)", x.get(3), 30);
        Checks.due("containsKey(12)", x.containsKey(12), false);
        Checks.end("ReadmeTest", args);
    }
}
