import java.lang.reflect.Constructor;
import java.lang.reflect.Field;
import java.lang.reflect.Method;
import java.lang.reflect.Modifier;
import java.util.Set;
import java.util.TreeMap;
import java.util.TreeSet;

/** The public face: just the members that the document names, and no other that can be seen. */
public final class FaceTest {
    private static final String[] METHODS = {
        "int keep(boolean)", "int begin(int)", "int commit(int)", "int rollback(int)",
        "int savepoint(int,int)", "int undoTo(int,int)", "int release(int,int)",
        "int read(int,int)", "int write(int,int,int)", "int erase(int,int)",
        "int shift(int,int,int)", "int move(int,int,int,int)",
        "int append(int)", "int clearText()", "int fault()", "int perform()",
        "int undo()", "int save()", "int restore()",
        "int value(int)", "int committed(int)", "int mode(int,int)", "int busyFor(int,int)",
        "int session(int,int)", "int nameOf(int,int)", "int nearest(int,int)",
        "int changedSince(int,int,boolean)", "int ifUndone(int,int,int)", "int total(int)",
        "double mean()",
    };

    private FaceTest() {
    }

    public static void main(String[] args) throws ReflectiveOperationException {
        Checks checks = new Checks();
        Class<?> face = SavepointStore.class;
        checks.holds("the class is public and final",
                Modifier.isPublic(face.getModifiers()) && Modifier.isFinal(face.getModifiers()));

        Set<String> methods = new TreeSet<>();
        Set<String> publicNames = new TreeSet<>();
        for (Method method : face.getDeclaredMethods()) {
            if (Modifier.isPublic(method.getModifiers())) {
                methods.add(signature(method));
                publicNames.add(method.getName());
                checks.holds(method + " is no static method", !Modifier.isStatic(method.getModifiers()));
                checks.holds(method + " declares no exception", method.getExceptionTypes().length == 0);
            } else {
                checks.holds(method + " is private", Modifier.isPrivate(method.getModifiers()));
            }
        }
        checks.holds("the methods are those of the document: " + methods,
                methods.equals(new TreeSet<>(Set.of(METHODS))));
        for (Method method : face.getDeclaredMethods()) {
            checks.holds(method + " bears no name of a public one", Modifier.isPublic(method.getModifiers())
                    || !publicNames.contains(method.getName()));
        }

        TreeMap<String, Integer> constants = new TreeMap<>();
        for (Field field : face.getDeclaredFields()) {
            int modifiers = field.getModifiers();
            if (Modifier.isPublic(modifiers)) {
                checks.holds(field + " is a constant", Modifier.isStatic(modifiers)
                        && Modifier.isFinal(modifiers) && field.getType() == int.class);
                constants.put(field.getName(), field.getInt(null));
            } else {
                checks.holds(field + " is private", Modifier.isPrivate(modifiers));
            }
        }
        checks.holds("the constants are those of the document: " + constants,
                constants.toString().equals("{BAD_VALUE=-2, BUSY=-6, FAILED=-7, NONE=-5, "
                        + "NOT_POSSIBLE=-4, NO_SUCH=-1, TOO_MANY=-3}"));

        Constructor<?>[] constructors = face.getDeclaredConstructors();
        checks.due("the number of constructors", constructors.length, 1);
        checks.holds("the constructor is public and takes nothing",
                Modifier.isPublic(constructors[0].getModifiers())
                        && constructors[0].getParameterCount() == 0);
        for (Class<?> inside : face.getDeclaredClasses()) {
            checks.holds(inside + " is not public", !Modifier.isPublic(inside.getModifiers())
                    && !Modifier.isProtected(inside.getModifiers()));
        }
        checks.end();
    }

    private static String signature(Method method) {
        StringBuilder text = new StringBuilder();
        text.append(method.getReturnType().getName()).append(' ').append(method.getName()).append('(');
        String comma = "";
        for (Class<?> type : method.getParameterTypes()) {
            text.append(comma).append(type.getName());
            comma = ",";
        }
        return text.append(')').toString();
    }
}
