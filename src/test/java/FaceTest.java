import java.lang.reflect.Constructor;
import java.lang.reflect.Field;
import java.lang.reflect.Method;
import java.lang.reflect.Modifier;
import java.util.ArrayList;
import java.util.Arrays;
import java.util.HashSet;
import java.util.List;
import java.util.Set;
import java.util.TreeSet;

/** The public face: just what the document lists, and rule 1 of LANGUAGE.md. */
public final class FaceTest {
    private static final String I = " IndexOutOfBoundsException";
    private static final String A = " IllegalArgumentException";
    private static final String S = " IllegalStateException";

    private static final List<String> METHODS = List.of(
        "int buy int int int int" + I + A + S,
        "int sell int int int int" + I + A + S,
        "int split int int int" + I + A + S,
        "void cancel int" + I + S,
        "int setAllowance int int" + I + A,
        "int setWindow int" + A,
        "int trades",
        "int holding int int" + I,
        "int poolUnits int int" + I,
        "int poolCost int int" + I,
        "int costIn int" + I,
        "int costMatched int" + I,
        "int matches int" + I,
        "int kindOf int int" + I,
        "int saleDay int int" + I,
        "int buyDay int int" + I,
        "int unitsOf int int" + I,
        "int costOf int int" + I,
        "int proceedsOf int int" + I,
        "int gain int int" + I,
        "int net int" + I,
        "int carried int" + I,
        "int taxable int" + I);

    private static final Checks CHECKS = new Checks();

    public static void main(String[] args) {
        theClass();
        theConstants();
        theMethods();
        theClassesInside();
        CHECKS.end("FaceTest");
    }

    private static void theClass() {
        CHECKS.same("modifiers", Modifier.PUBLIC | Modifier.FINAL, GainsReckoner.class.getModifiers());
        Constructor<?>[] made = GainsReckoner.class.getDeclaredConstructors();
        CHECKS.same("constructors", 1, made.length);
        CHECKS.same("constructor", "public GainsReckoner()", made[0].toString());
    }

    private static void theConstants() {
        CHECKS.same("NONE", -1, GainsReckoner.NONE);
        CHECKS.same("SAME_DAY", 0, GainsReckoner.SAME_DAY);
        CHECKS.same("LATER", 1, GainsReckoner.LATER);
        CHECKS.same("POOL", 2, GainsReckoner.POOL);
        Set<String> open = new TreeSet<>();
        for (Field field : GainsReckoner.class.getDeclaredFields()) {
            int modifiers = field.getModifiers();
            if (!Modifier.isPrivate(modifiers)) {
                open.add(Modifier.toString(modifiers) + " " + field.getType() + " " + field.getName());
            } else if (Modifier.isStatic(modifiers)) {
                CHECKS.same(field.getName() + " is final", true, Modifier.isFinal(modifiers));
            }
        }
        String form = "public static final int ";
        CHECKS.same("fields", List.of(form + "LATER", form + "NONE", form + "POOL", form + "SAME_DAY"), open);
    }

    private static void theMethods() {
        List<String> open = new ArrayList<>();
        Set<String> openNames = new HashSet<>();
        for (Method method : GainsReckoner.class.getDeclaredMethods()) {
            if (!Modifier.isPrivate(method.getModifiers())) {
                CHECKS.same(method.getName(), Modifier.PUBLIC, method.getModifiers());
                open.add(signature(method));
                openNames.add(method.getName());
            }
        }
        for (String due : METHODS) {
            CHECKS.same("there is " + due, true, open.remove(due));
        }
        CHECKS.same("methods beyond the face", List.of(), open);
        for (Method method : GainsReckoner.class.getDeclaredMethods()) {
            if (Modifier.isPrivate(method.getModifiers())) {
                CHECKS.same(method.getName() + " bears a public name", false, openNames.contains(method.getName()));
            }
        }
    }

    private static String signature(Method method) {
        StringBuilder text = new StringBuilder(method.getReturnType() + " " + method.getName());
        Arrays.stream(method.getParameterTypes()).forEach(t -> text.append(' ').append(t));
        Arrays.stream(method.getExceptionTypes()).forEach(t -> text.append(' ').append(t.getSimpleName()));
        return text.toString();
    }

    private static void theClassesInside() {
        for (Class<?> inside : GainsReckoner.class.getDeclaredClasses()) {
            int modifiers = inside.getModifiers();
            CHECKS.same(inside + " is static", true, Modifier.isStatic(modifiers));
            CHECKS.same(inside + " is closed", false,
                Modifier.isPublic(modifiers) || Modifier.isProtected(modifiers));
        }
    }
}
