import java.lang.reflect.Constructor;
import java.lang.reflect.Field;
import java.lang.reflect.Method;
import java.lang.reflect.Modifier;
import java.util.HashSet;
import java.util.Set;
import java.util.TreeSet;

/** The public face of the document, and the rules of LANGUAGE.md that a compiled class shows. */
public final class FaceTest {
    private static final String STATE = "IllegalStateException";
    private static final String ARGUMENT = "IllegalArgumentException";
    private static final String INDEX = "IndexOutOfBoundsException";
    private static final String UNSUPPORTED = "UnsupportedOperationException";

    private static final Set<String> FACE = Set.of(
            "int symbol(int int) " + ARGUMENT + " " + STATE,
            "int production(int int int int) " + ARGUMENT + " " + STATE,
            "void rule(int int int int int) " + INDEX + " " + ARGUMENT,
            "int analyse() " + STATE + " " + UNSUPPORTED,
            "int fault(int)",
            "int visits(int) " + STATE + " " + INDEX,
            "int rank(int int) " + STATE + " " + INDEX,
            "int instruction(int int) " + STATE + " " + INDEX,
            "int node(int int int int int) " + ARGUMENT + " " + STATE,
            "void fell()",
            "void give(int int) " + INDEX,
            "void start(int) " + STATE + " " + INDEX,
            "int run(int) " + ARGUMENT + " " + STATE,
            "int status()",
            "int atHand()",
            "boolean knows(int int) " + INDEX,
            "int value(int int) " + INDEX + " " + STATE);

    public static void main(String[] args) {
        face();
        membersAreHidden();
        insideClasses();
        Expect.finish();
    }

    private static void face() {
        Set<String> got = new TreeSet<>();
        for (Method method : VisitGrammar.class.getDeclaredMethods()) {
            if (!Modifier.isPrivate(method.getModifiers())) {
                Expect.isTrue(method + " is public", Modifier.isPublic(method.getModifiers()));
                got.add(described(method));
            }
        }
        Expect.same("the face", new TreeSet<>(FACE).toString(), got.toString());
        int modifiers = VisitGrammar.class.getModifiers();
        Expect.isTrue("public final class", Modifier.isPublic(modifiers) && Modifier.isFinal(modifiers));
        Constructor<?>[] constructors = VisitGrammar.class.getDeclaredConstructors();
        Expect.equal("constructors", 1, constructors.length);
        Expect.isTrue("public VisitGrammar()",
                Modifier.isPublic(constructors[0].getModifiers()) && constructors[0].getParameterCount() == 0);
    }

    private static String described(Method method) {
        StringBuilder text = new StringBuilder();
        text.append(method.getReturnType()).append(' ').append(method.getName()).append('(');
        String gap = "";
        for (Class<?> parameter : method.getParameterTypes()) {
            text.append(gap).append(parameter);
            gap = " ";
        }
        text.append(')');
        for (Class<?> thrown : method.getExceptionTypes()) {
            text.append(' ').append(thrown.getSimpleName());
        }
        return text.toString();
    }

    private static void membersAreHidden() {
        for (Field field : VisitGrammar.class.getDeclaredFields()) {
            Expect.isTrue(field + " is private", Modifier.isPrivate(field.getModifiers()));
        }
        bearNoPublicName(VisitGrammar.class);
    }

    private static void bearNoPublicName(Class<?> type) {
        Set<String> names = new HashSet<>();
        FACE.forEach(line -> names.add(line.substring(line.indexOf(' ') + 1, line.indexOf('('))));
        for (Method method : type.getDeclaredMethods()) {
            Expect.isTrue(method + " bears no public method's name",
                    Modifier.isPublic(method.getModifiers()) || !names.contains(method.getName()));
        }
    }

    private static void insideClasses() {
        Class<?>[] inside = VisitGrammar.class.getDeclaredClasses();
        Expect.isTrue("some twelve classes at most", inside.length <= 11);
        for (Class<?> type : inside) {
            bearNoPublicName(type);
            int modifiers = type.getModifiers();
            Expect.isTrue(type + " is static and not public",
                    Modifier.isStatic(modifiers) && !Modifier.isPublic(modifiers) && !Modifier.isProtected(modifiers));
            int fields = 0;
            for (Field field : type.getDeclaredFields()) {
                boolean isStatic = Modifier.isStatic(field.getModifiers());
                fields += isStatic ? 0 : 1;
                Expect.isTrue(field + " is no static state", !isStatic || Modifier.isFinal(field.getModifiers()));
            }
            Expect.isTrue(type + " has some twenty fields at most", fields <= 20);
            for (Method method : type.getDeclaredMethods()) {
                Expect.isTrue(method + " takes at most seven parameters", method.getParameterCount() <= 7);
            }
        }
    }
}
