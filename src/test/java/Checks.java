/** What the tests share: answers that are due, exceptions that are due, and the end with its exit code. */
final class Checks {
    static final long NONE = 4294967296L;
    private static int wrong = 0;

    private Checks() {
    }

    static void due(String call, long got, long want) {
        if (got != want) {
            fault(call + " answered " + got + ", due is " + want);
        }
    }

    static void due(String call, boolean got, boolean want) {
        if (got != want) {
            fault(call + " answered " + got + ", due is " + want);
        }
    }

    static void fault(String what) {
        wrong++;
        System.out.println(what);
    }

    /** The call must throw just this exception, and must leave all that can be seen as it was. */
    static void throwsDue(MapsByUse x, String call, Class<? extends Exception> due, Runnable body) {
        String before = seen(x);
        Class<?> thrown = null;
        try {
            body.run();
        } catch (RuntimeException e) {
            thrown = e.getClass();
        }
        if (thrown != due) {
            fault(call + " threw " + thrown + ", due is " + due);
        }
        String after = seen(x);
        if (!after.equals(before)) {
            fault(call + " threw and changed " + before + " to " + after);
        }
    }

    private static String seen(MapsByUse x) {
        StringBuilder all = new StringBuilder();
        all.append("table ").append(x.size()).append(' ').append(x.sumOfKeys());
        all.append(' ').append(x.sumOfValues()).append(' ').append(x.sum());
        all.append(" words ").append(x.words()).append(x.words() == 0 ? "" : " " + x.mostOften());
        all.append(" marks ").append(x.marked());
        all.append(" shelf ").append(x.length()).append(' ').append(x.walk()).append(' ').append(x.dropped());
        for (int place = 0; place < x.length(); place++) {
            all.append(' ').append(x.usedAt(x.keyAt(place)));
        }
        return all.toString();
    }

    static void end(String test) {
        System.out.println(test + (wrong == 0 ? ": all is as due" : ": " + wrong + " faults"));
        if (wrong != 0) {
            System.exit(1);
        }
    }
}
