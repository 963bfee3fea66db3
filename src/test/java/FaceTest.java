import java.lang.reflect.Constructor;
import java.lang.reflect.Executable;
import java.lang.reflect.Field;
import java.lang.reflect.Method;
import java.lang.reflect.Modifier;
import java.util.ArrayList;
import java.util.List;
import java.util.TreeSet;

/** The face is that of the document: these members, with these exceptions, and no others to be seen. */
public final class FaceTest {
    private static final String B = " throws IndexOutOfBoundsException";
    private static final String A = ", IllegalArgumentException";
    private static final String S = ", IllegalStateException";
    private static final String[] FACE = {
        "Deeprows()",
        "int make(int, int) throws IllegalArgumentException, IllegalStateException",
        "int drop() throws IllegalStateException",
        "int empty()",
        "int put(int, int, int)" + B + A,
        "int say(int, int, int)" + B + A,
        "int none(int, int)" + B + A,
        "int hang(int, int, int)" + B + A + S,
        "int swap(int, int, int)" + B,
        "int fill(int, int)" + B + A,
        "int fillRow(int, int)" + B + A + S,
        "int setAll(int, int, int, int)" + B + A,
        "int setRows(int, int)" + B + A + S,
        "int twin(int)" + B + S,
        "int deepTwin(int)" + B + S,
        "int copy(int, int)" + B + A + S,
        "int kind(int)" + B,
        "int length(int)" + B,
        "int depth(int)" + B,
        "int what(int, int)" + B,
        "int at(int, int)" + B,
        "boolean isDeep(int, int)" + B,
        "boolean isFlat(int, int)" + B + A,
        "boolean areDeep(int, int, int, int)" + B + A,
        "int hash(int)" + B,
        "int flatHash(int)" + B + S,
        "String text(int)" + B,
        "int differ(int, int)" + B + A,
        "int compare(int, int)" + B + A,
        "int knock()",
        "int house(int) throws IllegalArgumentException",
        "boolean isSound()",
        "long digest()",
    };

    private static final Check check = new Check();

    public static void main(String[] args) {
        TreeSet<String> face = new TreeSet<>();
        TreeSet<String> seen = new TreeSet<>();
        TreeSet<String> hidden = new TreeSet<>();
        for (Constructor<?> made : Deeprows.class.getDeclaredConstructors()) {
            face.add("Deeprows" + rest(made));
            check.due("the constructor is public", Modifier.isPublic(made.getModifiers()), true);
        }
        for (Method method : Deeprows.class.getDeclaredMethods()) {
            if (Modifier.isPrivate(method.getModifiers())) {
                hidden.add(method.getName());
            } else {
                seen.add(method.getName());
                face.add(method.getReturnType().getSimpleName() + " " + method.getName() + rest(method));
                check.due(method + " is public and no more", method.getModifiers(), Modifier.PUBLIC);
            }
        }
        for (Field field : Deeprows.class.getDeclaredFields()) {
            check.due(field + " is private", Modifier.isPrivate(field.getModifiers()), true);
            if (Modifier.isStatic(field.getModifiers())) {
                check.due(field + " is final", Modifier.isFinal(field.getModifiers()), true);
                // Objects in them would be shared by all stores.
                Class<?> type = field.getType();
                check.due(field + " is a constant", type.isPrimitive() || type == String.class, true);
            }
        }
        check.due("the face", String.join("\n", face), String.join("\n", new TreeSet<>(List.of(FACE))));
        hidden.retainAll(seen);
        check.due("private methods with public names", hidden.toString(), "[]");
        check.due("public and final", Deeprows.class.getModifiers(), Modifier.PUBLIC | Modifier.FINAL);
        check.end();
    }

    private static String rest(Executable made) {
        List<String> taken = new ArrayList<>();
        for (Class<?> type : made.getParameterTypes()) {
            taken.add(type.getSimpleName());
        }
        List<String> thrown = new ArrayList<>();
        for (Class<?> type : made.getExceptionTypes()) {
            thrown.add(type.getSimpleName());
        }
        return "(" + String.join(", ", taken) + ")" + (thrown.isEmpty() ? "" : " throws " + String.join(", ", thrown));
    }
}
