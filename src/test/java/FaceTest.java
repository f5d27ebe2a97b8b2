import java.lang.reflect.Constructor;
import java.lang.reflect.Field;
import java.lang.reflect.Method;
import java.lang.reflect.Modifier;
import java.util.Set;
import java.util.TreeSet;

/** The public face: what the document names, and nothing else that is not private. */
public final class FaceTest {
    private static final Set<String> METHODS = Set.of(
            "int type(int)", "int clearText()", "int fault()", "int set(int,int)", "int setTrain(int)",
            "int load(int,int)", "int door(int,int,int)", "int wish(int)", "int order()", "int cancel(int)",
            "int pass(int)", "int scrape(int,int,int)", "int undo()", "int wagon(int,int)",
            "int doorOf(int,int,int)", "int height(int,int)", "int profile(int,int)", "int lacking(int)",
            "int ordered(int,int)", "int foretell(int,int)", "int emptyAfter()", "int count(int)",
            "long digest()");
    private static final Set<String> CONSTANTS = Set.of("BAD", "STATE", "FULL", "NONE");
    private static final Checks CHECKS = new Checks();

    public static void main(String[] args) throws Exception {
        Class<?> face = BallastTrain.class;
        CHECKS.due("public and final", face.getModifiers(), Modifier.PUBLIC | Modifier.FINAL);
        constants();
        constructor(face);
        methods(face);
        CHECKS.due("all fields that are not private are constants", openFields(face), CONSTANTS.size());
        for (Class<?> inside : face.getDeclaredClasses()) {
            CHECKS.due(inside + " is static", Modifier.isStatic(inside.getModifiers()) ? 1 : 0, 1);
            CHECKS.due(inside + " is not public", Modifier.isPublic(inside.getModifiers()) ? 1 : 0, 0);
        }
        CHECKS.end();
    }

    private static void constants() {
        CHECKS.due("BAD", BallastTrain.BAD, -1002);
        CHECKS.due("STATE", BallastTrain.STATE, -1003);
        CHECKS.due("FULL", BallastTrain.FULL, -1004);
        CHECKS.due("NONE", BallastTrain.NONE, -1001);
    }

    private static void constructor(Class<?> face) {
        Constructor<?>[] constructors = face.getDeclaredConstructors();
        CHECKS.due("constructors", constructors.length, 1);
        CHECKS.due("public", constructors[0].getModifiers(), Modifier.PUBLIC);
        CHECKS.due("parameters", constructors[0].getParameterCount(), 0);
    }

    private static void methods(Class<?> face) {
        Set<String> open = new TreeSet<>();
        Set<String> publicNames = new TreeSet<>();
        for (String method : METHODS) {
            publicNames.add(method.substring(method.indexOf(' ') + 1, method.indexOf('(')));
        }
        for (Method method : face.getDeclaredMethods()) {
            if (Modifier.isPrivate(method.getModifiers())) {
                CHECKS.due("a private " + method.getName(), publicNames.contains(method.getName()) ? 1 : 0, 0);
            } else {
                open.add(signature(method));
                CHECKS.due(method.getName() + " is public", method.getModifiers(), Modifier.PUBLIC);
            }
        }
        CHECKS.due("methods " + open, open.equals(METHODS) ? 1 : 0, 1);
    }

    private static String signature(Method method) {
        StringBuilder text = new StringBuilder();
        text.append(method.getReturnType()).append(' ').append(method.getName()).append('(');
        for (int i = 0; i < method.getParameterCount(); i++) {
            text.append(i == 0 ? "" : ",").append(method.getParameterTypes()[i]);
        }
        return text.append(')').toString();
    }

    private static int openFields(Class<?> face) {
        int open = 0;
        for (Field field : face.getDeclaredFields()) {
            if (!Modifier.isPrivate(field.getModifiers())) {
                CHECKS.due(field + " is named", CONSTANTS.contains(field.getName()) ? 1 : 0, 1);
                open++;
            }
        }
        return open;
    }
}
