import java.lang.reflect.Constructor;
import java.lang.reflect.Field;
import java.lang.reflect.Method;
import java.lang.reflect.Modifier;
import java.util.HashSet;
import java.util.Set;
import java.util.TreeSet;

/** The section "The public face", and rule 1 of LANGUAGE.md. */
public final class FaceTest {
    private static final Checks CHECKS = new Checks();

    private static final Set<String> FACE = Set.of(
        "void open(int,int,int) throws java.lang.IllegalArgumentException",
        "int set(int,int,int) throws java.lang.IllegalArgumentException",
        "int get(int,int) throws java.lang.IllegalArgumentException",
        "void fill(int,int,int)",
        "void filter(int,int) throws java.lang.IllegalArgumentException",
        "void plain(int,int) throws java.lang.IllegalArgumentException",
        "int best()",
        "void undo(int) throws java.lang.IllegalArgumentException",
        "int hash()",
        "int pass(int,int,int,boolean) throws java.lang.IllegalArgumentException",
        "int passOf(int,int) throws java.lang.IllegalArgumentException");

    public static void main(String[] args) {
        if (RowFilters.class.getModifiers() != (Modifier.PUBLIC | Modifier.FINAL)) {
            CHECKS.tell("the class is not public and final alone");
        }
        constructors();
        methods();
        fields();
        CHECKS.end();
    }

    private static void constructors() {
        Constructor<?>[] all = RowFilters.class.getDeclaredConstructors();
        CHECKS.due("constructors", all.length, 1);
        CHECKS.due("parameters of the constructor", all[0].getParameterCount(), 0);
        CHECKS.due("modifiers of the constructor", all[0].getModifiers(), Modifier.PUBLIC);
    }

    private static void methods() {
        Set<String> found = new TreeSet<>();
        Set<String> publicNames = new HashSet<>();
        Set<String> privateNames = new HashSet<>();
        for (Method method : RowFilters.class.getDeclaredMethods()) {
            if (Modifier.isPrivate(method.getModifiers())) {
                privateNames.add(method.getName());
            } else {
                found.add(method.toGenericString().replace("public ", "").replace("RowFilters.", ""));
                publicNames.add(method.getName());
            }
        }
        if (!found.equals(FACE)) {
            CHECKS.tell("the methods are " + found + ", due are " + FACE);
        }
        privateNames.retainAll(publicNames);
        if (!privateNames.isEmpty()) {
            CHECKS.tell("private methods bear the names of public ones: " + privateNames);
        }
    }

    private static void fields() {
        for (Field field : RowFilters.class.getDeclaredFields()) {
            int modifiers = field.getModifiers();
            if (!Modifier.isPrivate(modifiers)) {
                CHECKS.tell("the field " + field.getName() + " is not private");
            }
            if (Modifier.isStatic(modifiers) && !Modifier.isFinal(modifiers)) {
                CHECKS.tell("the static field " + field.getName() + " is not final");
            }
        }
    }
}
