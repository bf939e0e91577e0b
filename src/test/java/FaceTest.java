import java.lang.reflect.Constructor;
import java.lang.reflect.Field;
import java.lang.reflect.Method;
import java.lang.reflect.Modifier;
import java.util.Set;
import java.util.TreeSet;

/** The class has the document's face and nothing else that can be seen from outside. */
public final class FaceTest {
    private static final String[] METHODS = {
        "int enter() IllegalStateException",
        "void leave(int) IndexOutOfBoundsException NoSuchElementException IllegalStateException",
        "boolean apart(int,int,boolean) IndexOutOfBoundsException IllegalArgumentException IllegalStateException",
        "int pair() IllegalStateException NoSuchElementException",
        "int cost() NoSuchElementException",
        "int ways()",
        "int opponent(int) IndexOutOfBoundsException IllegalStateException",
        "boolean isWhite(int) IndexOutOfBoundsException IllegalStateException",
        "void report(int,int) IndexOutOfBoundsException IllegalArgumentException IllegalStateException",
        "int missing() IllegalStateException",
        "int close() IllegalStateException",
        "int back() IllegalStateException",
        "int play(int) IllegalArgumentException IllegalStateException",
        "int players()",
        "int rounds()",
        "boolean isIn(int)",
        "int tell(int,int) IndexOutOfBoundsException",
        "int had(int,int) IndexOutOfBoundsException",
        "int table(int) IndexOutOfBoundsException",
    };

    public static void main(String[] args) {
        Check.due("NONE", PairedField.NONE, -1);
        Check.due("BYE", PairedField.BYE, 12);
        Check.due("public final", PairedField.class.getModifiers(), Modifier.PUBLIC | Modifier.FINAL);
        Check.due("methods", visibleMethods().toString(), new TreeSet<>(Set.of(METHODS)).toString());
        Check.due("fields", visibleFields().toString(), "[BYE, NONE]");
        Constructor<?>[] constructors = PairedField.class.getDeclaredConstructors();
        Check.due("constructors", constructors.length, 1);
        Check.due("constructor", constructors[0].toString(), "public PairedField(int)");
        for (Class<?> inner : PairedField.class.getDeclaredClasses()) {
            int modifiers = inner.getModifiers();
            Check.due(inner + " is static", Modifier.isStatic(modifiers), true);
            Check.due(inner + " is hidden", Modifier.isPublic(modifiers) || Modifier.isProtected(modifiers), false);
        }
        Check.finish("FaceTest");
    }

    private static Set<String> visibleMethods() {
        Set<String> found = new TreeSet<>();
        for (Method method : PairedField.class.getDeclaredMethods()) {
            if (!Modifier.isPrivate(method.getModifiers())) {
                found.add(signature(method));
            }
        }
        return found;
    }

    private static String signature(Method method) {
        StringBuilder text = new StringBuilder();
        text.append(method.getReturnType().getSimpleName()).append(' ').append(method.getName()).append('(');
        String between = "";
        for (Class<?> type : method.getParameterTypes()) {
            text.append(between).append(type.getSimpleName());
            between = ",";
        }
        text.append(')');
        for (Class<?> type : method.getExceptionTypes()) {
            text.append(' ').append(type.getSimpleName());
        }
        return text.toString();
    }

    private static Set<String> visibleFields() {
        Set<String> found = new TreeSet<>();
        for (Field field : PairedField.class.getDeclaredFields()) {
            if (!Modifier.isPrivate(field.getModifiers())) {
                found.add(field.getName());
            }
        }
        return found;
    }
}
