import java.lang.reflect.Constructor;
import java.lang.reflect.Field;
import java.lang.reflect.Method;
import java.lang.reflect.Modifier;
import java.util.Arrays;
import java.util.TreeSet;

/** The public face: what the document lists is there, and nothing else can be seen from outside. */
public final class FaceTest {
    private static final String[] METHODS = {
        "int page(int, int)", "boolean write(int, int)", "boolean link(int, int)",
        "boolean move(int, int)", "boolean drop(int)", "boolean rule(int, int, boolean)",
        "boolean first(int)", "boolean begin(int, int, int, int)", "boolean stop()",
        "int work(int)", "int crash()", "boolean allowed(int)", "int found(int)", "int clock()",
        "int fetches()", "int waiting()", "int corpusAt(int)", "int document(int)",
        "long rank(int, int)", "int best(int, int, int)",
    };

    public static void main(String[] args) {
        Checks checks = new Checks();
        Class<?> face = PoliteGatherer.class;
        checks.due("the class is public and final",
            Modifier.isPublic(face.getModifiers()) && Modifier.isFinal(face.getModifiers()), true);
        checkConstructors(checks, face);
        checkMethods(checks, face);
        checkFields(checks, face);
        for (Class<?> inside : face.getDeclaredClasses()) {
            checks.due(inside + " is static and hidden", Modifier.isStatic(inside.getModifiers())
                && !Modifier.isPublic(inside.getModifiers())
                && !Modifier.isProtected(inside.getModifiers()), true);
        }
        checks.end();
    }

    private static void checkConstructors(Checks checks, Class<?> face) {
        Constructor<?>[] constructors = face.getDeclaredConstructors();
        checks.due("number of constructors", constructors.length, 1);
        checks.due("the constructor is public and takes nothing",
            Modifier.isPublic(constructors[0].getModifiers())
                && constructors[0].getParameterCount() == 0, true);
    }

    private static void checkMethods(Checks checks, Class<?> face) {
        TreeSet<String> seen = new TreeSet<>();
        TreeSet<String> publicNames = new TreeSet<>();
        for (Method method : face.getDeclaredMethods()) {
            if (!Modifier.isPrivate(method.getModifiers())) {
                checks.due(method + " is public and of the object",
                    Modifier.isPublic(method.getModifiers())
                        && !Modifier.isStatic(method.getModifiers()), true);
                seen.add(written(method));
                publicNames.add(method.getName());
            }
        }
        TreeSet<String> wanted = new TreeSet<>(Arrays.asList(METHODS));
        checks.due("the methods " + seen + " are those of the document", seen.equals(wanted), true);
        for (Method method : face.getDeclaredMethods()) {
            if (Modifier.isPrivate(method.getModifiers())) {
                checks.due(method + " bears a public name", publicNames.contains(method.getName()), false);
            }
        }
    }

    private static String written(Method method) {
        StringBuilder text = new StringBuilder();
        text.append(method.getReturnType()).append(' ').append(method.getName()).append('(');
        String gap = "";
        for (Class<?> type : method.getParameterTypes()) {
            text.append(gap).append(type);
            gap = ", ";
        }
        return text.append(')').toString();
    }

    private static void checkFields(Checks checks, Class<?> face) {
        checks.due("NONE", PoliteGatherer.NONE, -1);
        for (Field field : face.getDeclaredFields()) {
            int modifiers = field.getModifiers();
            boolean isNone = field.getName().equals("NONE") && field.getType() == int.class
                && Modifier.isPublic(modifiers) && Modifier.isStatic(modifiers) && Modifier.isFinal(modifiers);
            checks.due(field + " is NONE or private", isNone || Modifier.isPrivate(modifiers), true);
            checks.due(field + " is static and can change",
                Modifier.isStatic(modifiers) && !Modifier.isFinal(modifiers), false);
        }
    }
}
