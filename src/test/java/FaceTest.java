import java.lang.reflect.Constructor;
import java.lang.reflect.Field;
import java.lang.reflect.Method;
import java.lang.reflect.Modifier;
import java.util.Arrays;
import java.util.Set;
import java.util.TreeSet;

/** The class shows the document's face and nothing else. */
final class FaceTest {
    private static final String ARGUMENT = "IllegalArgumentException";
    private static final String STATE = "IllegalStateException";
    private static final String ELEMENT = "NoSuchElementException";
    private static final String UNSUPPORTED = "UnsupportedOperationException";
    private static final String[] FACE = {
        "int build() " + STATE,
        "int cell(int,int,int,int,int) " + ARGUMENT + " " + UNSUPPORTED + " " + STATE,
        "int count(int) " + ARGUMENT,
        "int flips(int) " + ELEMENT,
        "int instance(int,int,int) " + ARGUMENT + " " + UNSUPPORTED + " " + STATE,
        "int level(int) " + ELEMENT + " " + STATE,
        "int loop() " + ELEMENT,
        "int part(int,int,int,int,int,int) " + ARGUMENT + " " + STATE,
        "int reset()",
        "int set(int,int) " + ELEMENT + " " + ARGUMENT + " " + STATE,
        "int state(int) " + ELEMENT,
        "int stick(int,int) " + ELEMENT + " " + ARGUMENT,
        "int tick(int) " + ARGUMENT + " " + STATE,
        "int value(int) " + ELEMENT,
    };

    public static void main(String[] args) {
        Check check = new Check();
        Class<?> face = CircuitSimulator.class;
        check.equal("the class is public and final", Modifier.PUBLIC | Modifier.FINAL, face.getModifiers());
        Set<String> shown = new TreeSet<>();
        Set<String> names = new TreeSet<>();
        for (Method method : face.getDeclaredMethods()) {
            if (!Modifier.isPrivate(method.getModifiers())) {
                shown.add(described(method));
                names.add(method.getName());
            }
        }
        check.equal("the methods shown", new TreeSet<>(Arrays.asList(FACE)), shown);
        for (Method method : face.getDeclaredMethods()) {
            boolean doubled = Modifier.isPrivate(method.getModifiers()) && names.contains(method.getName());
            check.equal(method.getName() + " is hidden under a shown name", false, doubled);
        }
        for (Field field : face.getDeclaredFields()) {
            check.equal(field.getName() + " is private", true, Modifier.isPrivate(field.getModifiers()));
        }
        Constructor<?>[] constructors = face.getDeclaredConstructors();
        check.equal("constructors", 1, constructors.length);
        check.equal("the constructor is public", true, Modifier.isPublic(constructors[0].getModifiers()));
        check.equal("the constructor takes", 0, constructors[0].getParameterCount());
        check.finish("FaceTest");
    }

    private static String described(Method method) {
        StringBuilder text = new StringBuilder(method.getReturnType().getName() + " " + method.getName() + "(");
        String between = "";
        for (Class<?> type : method.getParameterTypes()) {
            text.append(between).append(type.getName());
            between = ",";
        }
        text.append(")");
        for (Class<?> thrown : method.getExceptionTypes()) {
            text.append(" ").append(thrown.getSimpleName());
        }
        return text.toString();
    }
}
