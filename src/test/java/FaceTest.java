import java.lang.reflect.Constructor;
import java.lang.reflect.Field;
import java.lang.reflect.Method;
import java.lang.reflect.Modifier;
import java.util.Arrays;
import java.util.Set;
import java.util.TreeSet;

/** The class shows the document's face and nothing else (LANGUAGE.md, rule 1). */
final class FaceTest {
    private static final Set<String> FACE = Set.of(
        "public int deviceRead[int]", "public int deviceWrite[int, int]", "public int faults[]",
        "public boolean load[int, int]", "public int send[int]", "public int reclaim[]",
        "public int revoke[]", "public int post[]", "public int receive[]",
        "public int taken[int]", "public int withdraw[]", "public int sending[]",
        "public int receiving[]");

    public static void main(String[] args) {
        theClassIsPublicAndFinal();
        theMethodsAreThoseOfTheDocument();
        allElseIsPrivate();
        noPrivateMethodHasAPublicName();
        Check.end();
    }

    private static void theClassIsPublicAndFinal() {
        int modifiers = RingDriver.class.getModifiers();
        Check.due("public", Modifier.isPublic(modifiers), true);
        Check.due("final", Modifier.isFinal(modifiers), true);
        Constructor<?>[] constructors = RingDriver.class.getDeclaredConstructors();
        Check.due("constructors", constructors.length, 1);
        Check.due("public constructor", Modifier.isPublic(constructors[0].getModifiers()), true);
        Check.due("its parameters", constructors[0].getParameterCount(), 0);
    }

    private static void theMethodsAreThoseOfTheDocument() {
        Set<String> shown = new TreeSet<>();
        for (Method method : RingDriver.class.getDeclaredMethods()) {
            if (!Modifier.isPrivate(method.getModifiers())) {
                shown.add(describe(method));
            }
        }
        Check.due("the face " + shown, shown.equals(FACE), true);
    }

    private static String describe(Method method) {
        return Modifier.toString(method.getModifiers()) + " " + method.getReturnType()
            + " " + method.getName() + Arrays.toString(method.getParameterTypes());
    }

    private static void allElseIsPrivate() {
        for (Field field : RingDriver.class.getDeclaredFields()) {
            int modifiers = field.getModifiers();
            Check.due(field.getName() + " is private", Modifier.isPrivate(modifiers), true);
            boolean changing = Modifier.isStatic(modifiers) && !Modifier.isFinal(modifiers);
            Check.due(field.getName() + " is changing static state", changing, false);
        }
        for (Class<?> inside : RingDriver.class.getDeclaredClasses()) {
            Check.due(inside + " is static", Modifier.isStatic(inside.getModifiers()), true);
        }
    }

    private static void noPrivateMethodHasAPublicName() {
        Set<String> publicNames = new TreeSet<>();
        for (Method method : RingDriver.class.getMethods()) {
            publicNames.add(method.getName());
        }
        for (Method method : RingDriver.class.getDeclaredMethods()) {
            boolean isPrivate = Modifier.isPrivate(method.getModifiers());
            boolean sameName = publicNames.contains(method.getName());
            Check.due("private " + method.getName() + " has a public name", isPrivate && sameName, false);
        }
    }
}
