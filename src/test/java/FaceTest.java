import java.lang.reflect.Constructor;
import java.lang.reflect.Field;
import java.lang.reflect.Method;
import java.lang.reflect.Modifier;
import java.util.Arrays;
import java.util.TreeSet;

/** The public face: just the members that the document names, with their exceptions. */
public final class FaceTest {
    private static final String STATE = " IllegalStateException";
    private static final String ARGUMENT = " IllegalArgumentException";
    private static final String PLACE = " IndexOutOfBoundsException";
    private static final String[] FACE = {
        "long put(int, int)" + STATE, "long putIfAbsent(int, int)" + STATE, "long get(int)",
        "int getOrDefault(int, int)", "long replace(int, int)", "boolean replaceTold(int, int, int)",
        "long remove(int)", "boolean removeTold(int, int)", "boolean containsKey(int)",
        "boolean containsValue(int)", "long merge(int, int)" + STATE, "long computeIfAbsent(int)" + STATE,
        "long computeIfPresent(int, int)", "int fill(int, int, int)" + ARGUMENT + STATE, "int addToAll(int)",
        "int dropBelow(int)", "int putShelf()" + STATE, "int size()", "int clear()", "long sumOfKeys()",
        "long sumOfValues()", "long sum()", "int count(int)" + ARGUMENT + STATE, "int times(int)" + ARGUMENT,
        "int forget(int)" + ARGUMENT, "int words()", "int mostOften() NoSuchElementException",
        "boolean mark(int)" + STATE, "boolean unmark(int)", "boolean isMarked(int)", "int marked()",
        "int markKeys()" + STATE, "int unmarkOthers()", "int dropMarked()", "int room(int)" + ARGUMENT,
        "long lay(int, int)", "long layIfAbsent(int, int)", "long use(int)", "int useOrDefault(int, int)",
        "boolean look(int)", "long take(int)", "int keyAt(int)" + PLACE, "int valueAt(int)" + PLACE,
        "int usedAt(int)", "int length()", "int wipe()", "int dropped()", "long walk()", "boolean isTrue()"
    };

    public static void main(String[] args) {
        int modifiers = MapsByUse.class.getModifiers();
        Checks.due("the class is public and final", Modifier.isPublic(modifiers) && Modifier.isFinal(modifiers), true);
        constructors();
        methods();
        fields();
        Checks.end("FaceTest", args);
    }

    private static void constructors() {
        Constructor<?>[] all = MapsByUse.class.getDeclaredConstructors();
        Checks.due("how many constructors", all.length, 1);
        Checks.due("its parameters", all[0].getParameterCount(), 0);
        Checks.due("it is public", Modifier.isPublic(all[0].getModifiers()), true);
    }

    private static void methods() {
        TreeSet<String> due = new TreeSet<>(Arrays.asList(FACE));
        TreeSet<String> there = new TreeSet<>();
        TreeSet<String> publicNames = new TreeSet<>();
        for (Method method : MapsByUse.class.getDeclaredMethods()) {
            if (!Modifier.isPrivate(method.getModifiers())) {
                there.add(told(method));
                publicNames.add(method.getName());
            }
        }
        if (!there.equals(due)) {
            Checks.fault("the face is " + there + ", due is " + due);
        }
        for (Method method : MapsByUse.class.getDeclaredMethods()) {
            boolean hidden = Modifier.isPrivate(method.getModifiers());
            Checks.due("private " + method.getName() + " bears a public name",
                    hidden && publicNames.contains(method.getName()), false);
        }
    }

    private static String told(Method method) {
        StringBuilder text = new StringBuilder();
        text.append(Modifier.isPublic(method.getModifiers()) ? "" : "not public ");
        text.append(Modifier.isStatic(method.getModifiers()) ? "static " : "");
        text.append(method.getReturnType().getSimpleName()).append(' ').append(method.getName()).append('(');
        for (int i = 0; i < method.getParameterCount(); i++) {
            text.append(i == 0 ? "" : ", ").append(method.getParameterTypes()[i].getSimpleName());
        }
        text.append(')');
        for (Class<?> thrown : method.getExceptionTypes()) {
            text.append(' ').append(thrown.getSimpleName());
        }
        return text.toString();
    }

    private static void fields() {
        for (Field field : MapsByUse.class.getDeclaredFields()) {
            int modifiers = field.getModifiers();
            Checks.due(field.getName() + " is private", Modifier.isPrivate(modifiers), true);
            Checks.due(field.getName() + " is no static state",
                    Modifier.isStatic(modifiers) && !Modifier.isFinal(modifiers), false);
        }
    }
}
