import java.util.Objects;
import java.util.Set;

/** Compares what calls answer with what is due, and tells where they differ. */
final class Check {
    static final Class<?> BAD_ARGUMENT = IllegalArgumentException.class;
    static final Class<?> BAD_STATE = IllegalStateException.class;
    static final Class<?> NO_ELEMENT = java.util.NoSuchElementException.class;

    /** What is told as the place of a wrong answer lies in none of these. */
    private static final Set<String> HELPERS = Set.of("Check", "Pools", "Twins");

    interface Call {
        Object answer();
    }

    interface Act {
        void run();
    }

    private static String promise = "";
    private static int compared = 0;
    private static int wrong = 0;

    private Check() {
    }

    static void promise(String name) {
        promise = name;
    }

    /** An exception that is due is given by its class. */
    static void due(Object want, Call call) {
        Object got;
        try {
            got = call.answer();
        } catch (RuntimeException e) {
            got = e.getClass();
        }
        compared++;
        if (!Objects.equals(want, got)) {
            wrong++;
            System.out.println("promise " + promise + ", " + place()
                    + ": answered " + got + ", due is " + want);
        }
    }

    static void dueOf(Object want, Act act) {
        due(want, () -> {
            act.run();
            return null;
        });
    }

    private static String place() {
        for (StackTraceElement each : new Throwable().getStackTrace()) {
            if (!HELPERS.contains(each.getClassName().split("\\$")[0])) {
                return each.getFileName() + ":" + each.getLineNumber();
            }
        }
        return "somewhere";
    }

    static void end() {
        System.out.println(compared + " answers compared, " + wrong + " wrong");
        if (wrong != 0 || compared == 0) {
            System.exit(1);
        }
    }
}
