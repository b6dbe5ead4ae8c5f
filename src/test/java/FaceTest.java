import java.lang.reflect.Constructor;
import java.lang.reflect.Field;
import java.lang.reflect.Method;
import java.lang.reflect.Modifier;
import java.util.ArrayList;
import java.util.Collections;
import java.util.List;

/** The class has the public face of the document, and nothing but private members beside it. */
public final class FaceTest {
    private static final String[] FACE = {
        "NO_RANK int static final",
        "RankMesh()",
        "below(int) int [IndexOutOfBoundsException]",
        "down(int,int) int [IndexOutOfBoundsException, IllegalStateException]",
        "endRoot(int) void [IndexOutOfBoundsException, IllegalStateException]",
        "heard(int,int) int [IndexOutOfBoundsException]",
        "leastRank(int) int [IndexOutOfBoundsException]",
        "link(int,int,int) int [IndexOutOfBoundsException, IllegalArgumentException]",
        "loops() int []",
        "makeRoot(int) int [IndexOutOfBoundsException, IllegalStateException]",
        "nextTelling(int) int [IndexOutOfBoundsException]",
        "parent(int) int [IndexOutOfBoundsException]",
        "pass(int) int [IllegalArgumentException]",
        "rank(int) int [IndexOutOfBoundsException]",
        "renew(int) int [IndexOutOfBoundsException, IllegalStateException]",
        "setRules(int,int,int,int) void [IllegalArgumentException]",
        "time() int []",
        "tree(int) int [IndexOutOfBoundsException]",
        "up(int) int [IndexOutOfBoundsException]",
    };

    public static void main(String[] args) {
        List<String> face = new ArrayList<>();
        int modifiers = RankMesh.class.getModifiers();
        Checks.due("public and final", 1,
                Modifier.isPublic(modifiers) && Modifier.isFinal(modifiers) ? 1 : 0);
        for (Field field : RankMesh.class.getDeclaredFields()) {
            addField(face, field);
        }
        for (Constructor<?> constructor : RankMesh.class.getDeclaredConstructors()) {
            face.add("RankMesh(" + names(constructor.getParameterTypes(), ",") + ")");
        }
        List<String> methods = new ArrayList<>();
        for (Method method : RankMesh.class.getDeclaredMethods()) {
            addMethod(methods, method);
        }
        Collections.sort(methods);
        face.addAll(methods);
        Checks.due("the face", String.join("\n", FACE), String.join("\n", face));
        Checks.end();
    }

    private static void addField(List<String> face, Field field) {
        int modifiers = field.getModifiers();
        if (!Modifier.isPrivate(modifiers)) {
            face.add(field.getName() + " " + field.getType().getSimpleName()
                    + (Modifier.isStatic(modifiers) ? " static" : "")
                    + (Modifier.isFinal(modifiers) ? " final" : ""));
        }
    }

    private static void addMethod(List<String> methods, Method method) {
        if (!Modifier.isPrivate(method.getModifiers())) {
            methods.add(method.getName() + "(" + names(method.getParameterTypes(), ",") + ") "
                    + method.getReturnType().getSimpleName()
                    + " [" + names(method.getExceptionTypes(), ", ") + "]");
        }
    }

    private static String names(Class<?>[] types, String between) {
        List<String> names = new ArrayList<>();
        for (Class<?> type : types) {
            names.add(type.getSimpleName());
        }
        return String.join(between, names);
    }
}
