import java.lang.reflect.Constructor;
import java.lang.reflect.Field;
import java.lang.reflect.Method;
import java.lang.reflect.Modifier;
import java.util.Set;
import java.util.TreeSet;

/** The face: just the public members of the document, with the exceptions that they name. */
public final class FaceTest {
    private static final String[] FACE = {
        "int make() throws IllegalStateException",
        "int pose(int, int, int, int, int, int) throws IllegalArgumentException, IllegalStateException",
        "int take(int, int) throws IndexOutOfBoundsException, IllegalStateException",
        "boolean blink(int, int) throws IndexOutOfBoundsException, IllegalStateException",
        "int dress(int, int, int) throws IndexOutOfBoundsException, IllegalArgumentException, IllegalStateException",
        "int bring(int, int) throws IllegalArgumentException",
        "int setMoths(int) throws IllegalArgumentException",
        "int mend(int, int, int) throws IndexOutOfBoundsException, IllegalArgumentException, IllegalStateException",
        "int joint(int, int, int) throws IndexOutOfBoundsException",
        "int doll(int, int) throws IndexOutOfBoundsException",
        "int count(int) throws IndexOutOfBoundsException",
        "int costs(int, int) throws IndexOutOfBoundsException",
        "int often(int, int) throws IndexOutOfBoundsException",
        "int needs(int, int) throws IndexOutOfBoundsException, IllegalArgumentException",
        "int lacks(int) throws IllegalArgumentException",
        "int worst()",
        "int foresee(int, int) throws IllegalArgumentException, IndexOutOfBoundsException",
        "int pass(int) throws IllegalArgumentException",
        "double mean()",
        "long digest()",
    };

    public static void main(String[] args) {
        Check.runAll(FaceTest.class);
    }

    private static String listed(Class<?>[] types) {
        StringBuilder names = new StringBuilder();
        for (Class<?> each : types) {
            names.append(names.length() == 0 ? "" : ", ").append(each.getSimpleName());
        }
        return names.toString();
    }

    static void promisesTheFaceAlone() {
        Set<String> want = new TreeSet<>(Set.of(FACE));
        Set<String> got = new TreeSet<>();
        for (Method each : DollCitadel.class.getDeclaredMethods()) {
            if (Modifier.isPrivate(each.getModifiers())) {
                continue;
            }
            Check.dueTrue(each + " is not public and of the object", each.getModifiers() == Modifier.PUBLIC);
            String thrown = listed(each.getExceptionTypes());
            got.add(each.getReturnType().getSimpleName() + " " + each.getName() + "("
                    + listed(each.getParameterTypes()) + ")" + (thrown.isEmpty() ? "" : " throws " + thrown));
        }
        Check.dueTrue("the face is " + got + ", due is " + want, got.equals(want));
    }

    static void promisesAPublicFinalClass() {
        int kind = DollCitadel.class.getModifiers();
        Check.dueTrue("public", Modifier.isPublic(kind));
        Check.dueTrue("final", Modifier.isFinal(kind));
        Constructor<?>[] makers = DollCitadel.class.getDeclaredConstructors();
        Check.due("constructors", makers.length, 1);
        Check.due("its parameters", makers[0].getParameterCount(), 0);
        Check.dueTrue("a public constructor", Modifier.isPublic(makers[0].getModifiers()));
    }

    static void promisesNoFieldOfTheFace() {
        for (Field each : DollCitadel.class.getDeclaredFields()) {
            Check.dueTrue(each + " is not private", Modifier.isPrivate(each.getModifiers()));
        }
    }

    static void promisesNoPrivateMethodNamedLikeAPublicOne() {
        Set<String> names = new TreeSet<>();
        for (Method each : DollCitadel.class.getDeclaredMethods()) {
            if (Modifier.isPublic(each.getModifiers())) {
                names.add(each.getName());
            }
        }
        Class<?>[] inside = DollCitadel.class.getDeclaredClasses();
        for (Class<?> owner : inside) {
            for (Method each : owner.getDeclaredMethods()) {
                Check.dueTrue(each + " is named like one of the face", !names.contains(each.getName()));
            }
        }
        for (Method each : DollCitadel.class.getDeclaredMethods()) {
            Check.dueTrue(each + " is named like one of the face",
                    Modifier.isPublic(each.getModifiers()) || !names.contains(each.getName()));
        }
    }
}
