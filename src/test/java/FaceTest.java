import java.lang.reflect.Constructor;
import java.lang.reflect.Field;
import java.lang.reflect.Method;
import java.lang.reflect.Modifier;
import java.util.Set;
import java.util.TreeSet;

/** The class has the document's face, each member as it is written there, and nothing else that can be seen. */
public final class FaceTest {
    private static final String[] CONSTANTS = {
        "public static final int NONE",
        "public static final int BYE",
    };
    private static final String[] METHODS = {
        "public int enter() IllegalStateException",
        "public void leave(int) IndexOutOfBoundsException NoSuchElementException IllegalStateException",
        "public boolean apart(int,int,boolean) IndexOutOfBoundsException IllegalArgumentException"
            + " IllegalStateException",
        "public int pair() IllegalStateException NoSuchElementException",
        "public int cost() NoSuchElementException",
        "public int ways()",
        "public int opponent(int) IndexOutOfBoundsException IllegalStateException",
        "public boolean isWhite(int) IndexOutOfBoundsException IllegalStateException",
        "public void report(int,int) IndexOutOfBoundsException IllegalArgumentException IllegalStateException",
        "public int missing() IllegalStateException",
        "public int close() IllegalStateException",
        "public int back() IllegalStateException",
        "public int play(int) IllegalArgumentException IllegalStateException",
        "public int players()",
        "public int rounds()",
        "public boolean isIn(int)",
        "public int tell(int,int) IndexOutOfBoundsException",
        "public int had(int,int) IndexOutOfBoundsException",
        "public int table(int) IndexOutOfBoundsException",
    };

    public static void main(String[] args) {
        theClass();
        constants();
        constructor();
        methods();
        noPrivateMethodIsNamedAsAPublicOne();
        classesInside();
        Check.finish("FaceTest");
    }

    private static void theClass() {
        Class<?> face = PairedField.class;
        Check.due("public final", face.getModifiers(), Modifier.PUBLIC | Modifier.FINAL);
        Check.due("package", face.getPackageName(), "");
        Check.due("of no other class", face.getSuperclass().getName(), "java.lang.Object");
        Check.due("interfaces", face.getInterfaces().length, 0);
    }

    // The tests stand in the class's own package: what has lost its 'public' would still compile here, so modifiers
    // are compared too.

    private static void constants() {
        Check.due("NONE", PairedField.NONE, -1);
        Check.due("BYE", PairedField.BYE, 12);
        Set<String> found = new TreeSet<>();
        for (Field field : PairedField.class.getDeclaredFields()) {
            if (!Modifier.isPrivate(field.getModifiers())) {
                found.add(Modifier.toString(field.getModifiers()) + ' ' + field.getType() + ' ' + field.getName());
            }
        }
        Check.due("constants", found.toString(), sorted(CONSTANTS));
    }

    private static void constructor() {
        Constructor<?>[] constructors = PairedField.class.getDeclaredConstructors();
        Check.due("constructors", constructors.length, 1);
        Check.due("constructor", constructors[0].toString(), "public PairedField(int)");
    }

    private static void methods() {
        Set<String> found = new TreeSet<>();
        for (Method method : PairedField.class.getDeclaredMethods()) {
            if (!Modifier.isPrivate(method.getModifiers())) {
                found.add(signature(method));
            }
        }
        Check.due("methods", found.toString(), sorted(METHODS));
    }

    private static String signature(Method method) {
        StringBuilder text = new StringBuilder();
        text.append(Modifier.toString(method.getModifiers())).append(' ');
        text.append(method.getReturnType()).append(' ').append(method.getName()).append('(');
        String between = "";
        for (Class<?> type : method.getParameterTypes()) {
            text.append(between).append(type);
            between = ",";
        }
        text.append(')');
        for (Class<?> type : method.getExceptionTypes()) {
            text.append(' ').append(type.getSimpleName());
        }
        return text.toString();
    }

    /** LANGUAGE.md, rule 1. */
    private static void noPrivateMethodIsNamedAsAPublicOne() {
        Set<String> seen = new TreeSet<>();
        for (Method method : PairedField.class.getDeclaredMethods()) {
            Check.due(method.getName() + " is the only one of its name", seen.add(method.getName()), true);
        }
    }

    /** LANGUAGE.md, rules 1 and 5: hidden and static, and no static state in them. */
    private static void classesInside() {
        for (Class<?> inside : PairedField.class.getDeclaredClasses()) {
            int modifiers = inside.getModifiers();
            Check.due(inside + " is static", Modifier.isStatic(modifiers), true);
            Check.due(inside + " is hidden", Modifier.isPublic(modifiers) || Modifier.isProtected(modifiers), false);
            noStaticState(inside);
        }
        noStaticState(PairedField.class);
    }

    private static void noStaticState(Class<?> type) {
        for (Field field : type.getDeclaredFields()) {
            if (Modifier.isStatic(field.getModifiers())) {
                Check.due(field + " is final", Modifier.isFinal(field.getModifiers()), true);
            }
        }
    }

    private static String sorted(String[] lines) {
        return new TreeSet<>(Set.of(lines)).toString();
    }
}
