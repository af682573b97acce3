import java.lang.reflect.Constructor;
import java.lang.reflect.Field;
import java.lang.reflect.Method;
import java.lang.reflect.Modifier;
import java.util.TreeSet;

/** The public face of the document, and rule 1 of LANGUAGE.md. */
public final class FaceTest {
    private static final String IAE = "java.lang.IllegalArgumentException";
    private static final String ISE = "java.lang.IllegalStateException";
    private static final String NSE = "java.util.NoSuchElementException";

    private static final String[] FACE = {
        "int write(int,int,int) " + IAE,
        "int punch(int,int,int) " + IAE,
        "int setCopies(int,int) " + IAE,
        "int read(int,int) " + IAE + " " + ISE,
        "int nextData(int,int) " + IAE + " " + NSE,
        "int nextHole(int,int) " + IAE,
        "int sync() " + ISE,
        "int abandon()",
        "int group()",
        "int buffered()",
        "void offline(int,int) " + IAE + " " + ISE,
        "int online(int,int) " + IAE + " " + ISE,
        "boolean spoil(int,int,int) " + IAE + " " + ISE,
        "boolean isSpoilt(int,int,int) " + IAE + " " + ISE,
        "boolean isFree(int,int) " + IAE,
        "int free(int) " + IAE,
        "int scrub()",
        "int healed()",
        "int lost()",
        "int places(int,int) " + IAE,
        "int place(int,int,int) " + IAE + " " + NSE,
        "int nodePlace(int,int) " + IAE + " " + NSE,
        "int rootPlace(int) " + NSE,
        "int birth(int,int) " + IAE,
        "int checksum(int) " + IAE,
        "int rootChecksum()",
    };

    public static void main(String[] args) {
        Check.promise("1 to 27, the face");
        Check.due(Modifier.PUBLIC | Modifier.FINAL, () -> Zfsmill.class.getModifiers());
        publicMethodsAreThoseOfTheFace();
        otherMembersArePrivate();
        Check.end();
    }

    private static void publicMethodsAreThoseOfTheFace() {
        TreeSet<String> names = new TreeSet<>();
        TreeSet<String> found = new TreeSet<>();
        for (Method each : Zfsmill.class.getDeclaredMethods()) {
            if (Modifier.isPublic(each.getModifiers())) {
                names.add(each.getName());
                found.add(describe(each));
            }
        }
        TreeSet<String> want = new TreeSet<>();
        for (String each : FACE) {
            want.add(each);
        }
        Check.due(want, () -> found);
        for (Method each : Zfsmill.class.getDeclaredMethods()) {
            boolean isPublic = Modifier.isPublic(each.getModifiers());
            Check.due(isPublic, () -> names.contains(each.getName()));
        }
    }

    private static String describe(Method method) {
        StringBuilder text = new StringBuilder();
        text.append(method.getReturnType()).append(' ').append(method.getName()).append('(');
        String comma = "";
        for (Class<?> each : method.getParameterTypes()) {
            text.append(comma).append(each);
            comma = ",";
        }
        text.append(')');
        for (Class<?> each : method.getExceptionTypes()) {
            text.append(' ').append(each.getName());
        }
        return text.toString();
    }

    private static void otherMembersArePrivate() {
        for (Method each : Zfsmill.class.getDeclaredMethods()) {
            int kind = each.getModifiers() & (Modifier.PUBLIC | Modifier.PRIVATE);
            Check.due(true, () -> kind != 0);
        }
        for (Field each : Zfsmill.class.getDeclaredFields()) {
            Check.due(true, () -> Modifier.isPrivate(each.getModifiers()));
            Check.due(true, () -> Modifier.isFinal(each.getModifiers())
                    || !Modifier.isStatic(each.getModifiers()));
        }
        Constructor<?>[] constructors = Zfsmill.class.getDeclaredConstructors();
        Check.due(1, () -> constructors.length);
        Check.due(true, () -> Modifier.isPublic(constructors[0].getModifiers()));
        Check.due(0, () -> constructors[0].getParameterCount());
        for (Class<?> each : Zfsmill.class.getDeclaredClasses()) {
            Check.due(true, () -> Modifier.isStatic(each.getModifiers()));
            Check.due(false, () -> Modifier.isPublic(each.getModifiers()));
            Check.due(false, () -> Modifier.isProtected(each.getModifiers()));
        }
    }
}
