import java.lang.reflect.Constructor;
import java.lang.reflect.Field;
import java.lang.reflect.Method;
import java.lang.reflect.Modifier;
import java.util.NoSuchElementException;
import java.util.Set;
import java.util.TreeSet;

/** The public face: these members, the exceptions that they name, and no other that is not private. */
public final class FaceTest {
    private static final Check CHECK = new Check();

    public static void main(String[] args) {
        CHECK.due("public and final", SlotFile.class.getModifiers(), Modifier.PUBLIC | Modifier.FINAL);
        dueEqual("methods", methods(), Set.of(
            "int insert[int, int] IAE", "boolean update[int, int, int] NSE IAE", "int delete[int] NSE",
            "int length[int]", "int byteAt[int, int] NSE", "int where[int, int] NSE IAE", "int next[int]",
            "int page[int, int] IAE", "int slot[int, int] IAE", "int sync[]", "int crash[int] IAE",
            "int total[int] IAE"));
        dueEqual("fields", fields(), Set.of("NONE " + (Modifier.PUBLIC | Modifier.STATIC | Modifier.FINAL)));
        Constructor<?>[] constructors = SlotFile.class.getDeclaredConstructors();
        CHECK.due("constructors", constructors.length, 1);
        CHECK.due("its parameters", constructors[0].getParameterCount(), 0);
        CHECK.due("it is public", constructors[0].getModifiers(), Modifier.PUBLIC);
        for (Class<?> inner : SlotFile.class.getDeclaredClasses()) {
            int modifiers = inner.getModifiers();
            CHECK.due(inner + " is static", Modifier.isStatic(modifiers), true);
            CHECK.due(inner + " is hidden", Modifier.isPublic(modifiers) || Modifier.isProtected(modifiers), false);
            dueNoNamesOfTheFace(inner);
            dueConstantsAlone(inner);
        }
        dueNoNamesOfTheFace(SlotFile.class);
        dueConstantsAlone(SlotFile.class);
        CHECK.end();
    }

    /** No private method bears the name of a public one. */
    private static void dueNoNamesOfTheFace(Class<?> type) {
        Set<String> names = new TreeSet<>();
        for (Method method : SlotFile.class.getMethods()) {
            names.add(method.getName());
        }
        for (Method method : type.getDeclaredMethods()) {
            boolean isOfTheFace = type == SlotFile.class && Modifier.isPublic(method.getModifiers());
            CHECK.due(method + " has its own name", isOfTheFace || !names.contains(method.getName()), true);
        }
    }

    /** Static fields are final, so that objects share nothing and no answer hangs on another object. */
    private static void dueConstantsAlone(Class<?> type) {
        for (Field field : type.getDeclaredFields()) {
            int modifiers = field.getModifiers();
            if (Modifier.isStatic(modifiers)) {
                CHECK.due(field + " is a constant", Modifier.isFinal(modifiers) && field.getType() == int.class, true);
            }
        }
    }

    private static void dueEqual(String what, Set<String> got, Set<String> want) {
        CHECK.due(what + " " + got + " are " + want, got.equals(want), true);
    }

    private static Set<String> methods() {
        Set<String> all = new TreeSet<>();
        for (Method method : SlotFile.class.getDeclaredMethods()) {
            if (!Modifier.isPrivate(method.getModifiers())) {
                StringBuilder text = new StringBuilder();
                text.append(method.getReturnType()).append(' ').append(method.getName());
                text.append(java.util.Arrays.toString(method.getParameterTypes()));
                for (Class<?> thrown : method.getExceptionTypes()) {
                    text.append(thrown == NoSuchElementException.class ? " NSE"
                        : thrown == IllegalArgumentException.class ? " IAE" : " " + thrown);
                }
                all.add(text.toString());
            }
        }
        return all;
    }

    private static Set<String> fields() {
        Set<String> all = new TreeSet<>();
        for (Field field : SlotFile.class.getDeclaredFields()) {
            if (!Modifier.isPrivate(field.getModifiers())) {
                all.add(field.getName() + " " + field.getModifiers());
            }
        }
        return all;
    }
}
