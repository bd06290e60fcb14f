import java.lang.reflect.Constructor;
import java.lang.reflect.Field;
import java.lang.reflect.Method;
import java.lang.reflect.Modifier;
import java.util.Set;
import java.util.TreeSet;

/** The public face: the document's members and no other that can be seen. */
public final class FaceTest {
    private static final Set<String> METHODS = Set.of(
            "int gear()", "boolean give(int,int)", "int send(int,int)", "int tick(int)",
            "void power()", "void fail()", "int commission(int)", "int compares()",
            "int told(int,int)", "int frames()");
    private static final Set<String> CONSTANTS = Set.of("NONE", "CLASH", "BAD");

    public static void main(String[] args) {
        Check.due("NONE", LampBus.NONE, -1);
        Check.due("CLASH", LampBus.CLASH, 256);
        Check.due("BAD", LampBus.BAD, -2);
        Check.due("public and final", LampBus.class.getModifiers() == (Modifier.PUBLIC | Modifier.FINAL), true);
        checkMethods();
        checkFields();
        checkConstructors();
        Check.finish();
    }

    private static void checkMethods() {
        Set<String> seen = new TreeSet<>();
        Set<String> hidden = new TreeSet<>();
        for (Method method : LampBus.class.getDeclaredMethods()) {
            if (Modifier.isPrivate(method.getModifiers())) {
                hidden.add(method.getName());
            } else {
                String whole = method.toString().replace("LampBus.", "");
                seen.add(whole.substring("public ".length()));
            }
        }
        Check.due("the methods are " + seen, seen.equals(METHODS), true);
        for (String face : METHODS) {
            String name = face.substring(face.indexOf(' ') + 1, face.indexOf('('));
            Check.due("a private method " + name, hidden.contains(name), false);
        }
    }

    private static void checkFields() {
        for (Field field : LampBus.class.getDeclaredFields()) {
            int modifiers = field.getModifiers();
            boolean constant = CONSTANTS.contains(field.getName());
            Check.due("private field " + field, Modifier.isPrivate(modifiers), !constant);
            if (Modifier.isStatic(modifiers)) {
                Check.due("final static field " + field, Modifier.isFinal(modifiers), true);
            }
        }
    }

    private static void checkConstructors() {
        Constructor<?>[] constructors = LampBus.class.getDeclaredConstructors();
        Check.due("how many constructors", constructors.length, 1);
        Check.due("parameters of the constructor", constructors[0].getParameterCount(), 0);
        Check.due("public constructor", Modifier.isPublic(constructors[0].getModifiers()), true);
    }
}
