import java.io.IOException;
import java.lang.reflect.Constructor;
import java.lang.reflect.Field;
import java.lang.reflect.Method;
import java.lang.reflect.Modifier;
import java.nio.file.Files;
import java.nio.file.Path;
import java.util.ArrayList;
import java.util.List;
import java.util.Set;
import java.util.TreeMap;
import java.util.TreeSet;
import java.util.stream.Collectors;
import java.util.stream.Stream;

/** The section "The public face", and what the section "Errors" says of the face. */
public final class FaceTest extends Cases {
    private static final Class<?> FACE = SavepointStore.class;
    private static final Path SOURCE = Path.of("src", "main", "java", "SavepointStore.java");

    /** As the document has them; the lines with a rule are the heads that stand ahead of the calls. */
    private static final String[] LINES = {
        "---- the setting, transactions",
        "int keep(boolean isKept)", "int begin(int session)", "int commit(int session)",
        "int rollback(int session)",
        "---- savepoints",
        "int savepoint(int session, int name)", "int undoTo(int session, int name)",
        "int release(int session, int name)",
        "---- statements",
        "int read(int session, int key)", "int write(int session, int key, int value)",
        "int erase(int session, int key)", "int shift(int session, int keys, int delta)",
        "int move(int session, int from, int to, int amount)",
        "---- text",
        "int append(int character)", "int clearText()", "int fault()", "int perform()",
        "---- history and snapshot",
        "int undo()", "int save()", "int restore()",
        "---- queries; they change nothing, and lock nothing",
        "int value(int key)", "int committed(int key)", "int mode(int session, int key)",
        "int busyFor(int key, int mode)", "int session(int session, int what)",
        "int nameOf(int session, int savepoint)", "int nearest(int session, int name)",
        "int changedSince(int session, int savepoint, boolean isLocks)",
        "int ifUndone(int session, int name, int key)", "int total(int what)", "double mean()",
    };

    public static void main(String[] args) throws ReflectiveOperationException {
        new FaceTest().runAll("publicFace", "errors");
    }

    private static Stream<String> signatures() {
        return Stream.of(LINES).filter(line -> !line.startsWith("----"));
    }

    void publicFaceClass() {
        holds("the class is public and final",
                Modifier.isPublic(FACE.getModifiers()) && Modifier.isFinal(FACE.getModifiers()));
        holds("it stands in no package", FACE.getPackageName().isEmpty());
        holds("it extends nothing", FACE.getSuperclass() == Object.class && FACE.getInterfaces().length == 0);
        for (Class<?> inside : FACE.getDeclaredClasses()) {
            holds(inside + " is not public", !Modifier.isPublic(inside.getModifiers())
                    && !Modifier.isProtected(inside.getModifiers()));
        }
    }

    void publicFaceConstants() throws IllegalAccessException {
        TreeMap<String, Integer> constants = new TreeMap<>();
        for (Field field : FACE.getDeclaredFields()) {
            int modifiers = field.getModifiers();
            if (Modifier.isPublic(modifiers)) {
                holds(field + " is a constant", Modifier.isStatic(modifiers)
                        && Modifier.isFinal(modifiers) && field.getType() == int.class);
                constants.put(field.getName(), field.getInt(null));
            } else {
                holds(field + " is private", Modifier.isPrivate(modifiers));
            }
        }
        holds("the constants are those of the document: " + constants,
                constants.toString().equals("{BAD_VALUE=-2, BUSY=-6, FAILED=-7, NONE=-5, "
                        + "NOT_POSSIBLE=-4, NO_SUCH=-1, TOO_MANY=-3}"));
    }

    void publicFaceConstructor() {
        Constructor<?>[] constructors = FACE.getDeclaredConstructors();
        due("the number of constructors", constructors.length, 1);
        holds("the constructor is public and takes nothing", Modifier.isPublic(constructors[0].getModifiers())
                && constructors[0].getParameterCount() == 0);
        holds("it declares no exception", constructors[0].getExceptionTypes().length == 0);
    }

    void publicFaceMethods() {
        Set<String> found = new TreeSet<>();
        for (Method method : FACE.getDeclaredMethods()) {
            if (Modifier.isPublic(method.getModifiers())) {
                found.add(withoutNames(method));
                holds(method + " is no static method", !Modifier.isStatic(method.getModifiers()));
                holds(method + " declares no exception", method.getExceptionTypes().length == 0);
            }
        }
        Set<String> wanted = signatures().map(line -> line.replaceAll(" \\w+([,)])", "$1"))
                .collect(Collectors.toCollection(TreeSet::new));
        holds("the methods are those of the document: " + found, found.equals(wanted));
    }

    private static String withoutNames(Method method) {
        String types = Stream.of(method.getParameterTypes()).map(Class::getName).collect(Collectors.joining(", "));
        return method.getReturnType().getName() + ' ' + method.getName() + '(' + types + ')';
    }

    /** "and nothing public beside them" */
    void publicFaceNothingBeside() {
        Set<String> names = signatures().map(line -> line.replaceAll("^\\w+ |\\(.*", ""))
                .collect(Collectors.toSet());
        due("names of public methods", names.size(), 30);
        for (Method method : FACE.getDeclaredMethods()) {
            boolean isPublic = Modifier.isPublic(method.getModifiers());
            holds(method + " is public or private", isPublic || Modifier.isPrivate(method.getModifiers()));
            holds(method + " bears the name of a public one just if it is one",
                    isPublic == names.contains(method.getName()));
        }
    }

    /** What each parameter is called, which only the text of the class tells. */
    void publicFaceNamesOfParameters() throws IOException {
        List<String> lines = Files.readAllLines(SOURCE);
        signatures().forEach(line -> holds("it stands: " + line, lines.contains("    public " + line + " {")));
        holds("the constructor stands", lines.contains("    public SavepointStore() {"));
    }

    /** "Ahead of the calls .. the interface says" */
    void errorsHeadsAheadOfTheCalls() throws IOException {
        List<String> found = new ArrayList<>();
        for (String line : Files.readAllLines(SOURCE)) {
            if (line.matches("    public (int|double) \\w+\\(.*\\) \\{")) {
                found.add(line.substring("    public ".length(), line.length() - " {".length()));
            } else if (line.startsWith("    // ---- ") && found.size() < LINES.length) {
                found.add(line.substring("    // ".length()));
            }
        }
        holds("heads and calls in the document's order: " + found, found.equals(List.of(LINES)));
    }
}
