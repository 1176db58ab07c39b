import java.lang.reflect.Constructor;
import java.lang.reflect.Field;
import java.lang.reflect.Method;
import java.lang.reflect.Modifier;
import java.util.Set;
import java.util.TreeSet;

/** The class shows the document's face and nothing more, as LANGUAGE.md's rules 1 and 5 ask. */
public final class FaceTest {
    private static final Set<String> FACE = new TreeSet<>(Set.of(
            "int one(int,int,int)", "int pair(int,int,boolean)", "int horn(int)", "int say(int)", "int wipe()",
            "int fault()", "int judge(int)"));

    private static final String[] REST = {
        "int done()", "int behind(int,int)", "int then(int)", "int apart(int,int)", "int triangles(int)",
        "int bring(int,int,int,int,int,int)", "int lean(int)", "int bisect(int)", "int meet(int,int)",
        "int chalk(int,int)", "int forget()", "int was(int,int)", "int ask(int)", "int take(int,int)",
        "long cock(int,int,int,int,int,int,int)", "int book(int,int,int)", "int image(int)", "int restore(int)",
        "int told(int)"};

    public static void main(String[] args) {
        FACE.addAll(Set.of(REST));
        methods();
        constructors();
        fields();
        nested();
        Due.finish("FaceTest");
    }

    private static void methods() {
        Set<String> seen = new TreeSet<>();
        Set<String> names = new TreeSet<>();
        for (Method method : HornCity.class.getDeclaredMethods()) {
            if (Modifier.isPublic(method.getModifiers())) {
                seen.add(shown(method));
                names.add(method.getName());
                Due.due(method + " throws", method.getExceptionTypes().length, 0);
            }
        }
        for (Method method : HornCity.class.getDeclaredMethods()) {
            if (!Modifier.isPublic(method.getModifiers())) {
                Due.due(method + " is private", Modifier.isPrivate(method.getModifiers()) ? 1 : 0, 1);
                Due.due(method + " bears a public name", names.contains(method.getName()) ? 1 : 0, 0);
            }
        }
        Due.due("methods " + seen + " for " + FACE, seen.equals(FACE) ? 1 : 0, 1);
    }

    private static String shown(Method method) {
        StringBuilder text = new StringBuilder(method.getReturnType() + " " + method.getName() + "(");
        for (Class<?> type : method.getParameterTypes()) {
            text.append(text.charAt(text.length() - 1) == '(' ? "" : ",").append(type);
        }
        return text + ")";
    }

    private static void constructors() {
        Constructor<?>[] all = HornCity.class.getDeclaredConstructors();
        Due.due("public constructors", HornCity.class.getConstructors().length, 1);
        Due.due("its parameters", HornCity.class.getConstructors()[0].getParameterCount(), 0);
        for (Constructor<?> one : all) {
            boolean isShown = Modifier.isPublic(one.getModifiers()) || Modifier.isPrivate(one.getModifiers());
            Due.due(one + " is public or private", isShown ? 1 : 0, 1);
        }
        Due.due("the class is public and final", HornCity.class.getModifiers() & (Modifier.PUBLIC | Modifier.FINAL),
                Modifier.PUBLIC | Modifier.FINAL);
    }

    private static void fields() {
        Set<String> constants = Set.of("NONE", "UNKNOWN", "OUTSIDE", "STATE", "FULL", "NO", "LOST");
        for (Field field : HornCity.class.getDeclaredFields()) {
            boolean isConstant = constants.contains(field.getName());
            Due.due(field + " is public", Modifier.isPublic(field.getModifiers()) ? 1 : 0, isConstant ? 1 : 0);
            Due.due(field + " is private", Modifier.isPrivate(field.getModifiers()) ? 1 : 0, isConstant ? 0 : 1);
            if (Modifier.isStatic(field.getModifiers())) {
                Due.due(field + " is final", Modifier.isFinal(field.getModifiers()) ? 1 : 0, 1);
            }
        }
    }

    private static void nested() {
        for (Class<?> inside : HornCity.class.getDeclaredClasses()) {
            Due.due(inside + " is static", Modifier.isStatic(inside.getModifiers()) ? 1 : 0, 1);
            Due.due(inside + " is not shown", inside.getModifiers() & (Modifier.PUBLIC | Modifier.PROTECTED), 0);
            for (Method method : inside.getDeclaredMethods()) {
                boolean bears = Modifier.isPrivate(method.getModifiers()) && FACE.stream().anyMatch(face -> face.contains(" " + method.getName() + "("));
                Due.due(method + " bears a public name", bears ? 1 : 0, 0);
            }
        }
    }
}
