import java.lang.reflect.Constructor;
import java.lang.reflect.Field;
import java.lang.reflect.Method;
import java.lang.reflect.Modifier;
import java.util.Arrays;
import java.util.TreeSet;

/** The public face, as the document writes it, and nothing beside it (LANGUAGE.md, rule 1). */
public final class FaceTest {
    private static final String[] FACE = {
        "int program(int,boolean)",
        "int code(int,int,int,int)",
        "int unit()",
        "int make(int,int)",
        "int run(int,int)",
        "byte at(int,int,int) ArrayIndexOutOfBoundsException",
        "int raised(int)",
        "int told(int,int)",
        "int mark(int,int)",
        "byte octet(int,int) ArrayIndexOutOfBoundsException",
        "boolean shares(int,int)",
        "int cancel(int,int)",
        "long plain(int,long,long) ArithmeticException NegativeArraySizeException",
        "int state(int)",
        "int count(int)",
    };

    public static void main(String[] args) {
        methods();
        fieldsAndConstructors();
        Check.end();
    }

    private static String written(Method m) {
        StringBuilder text = new StringBuilder(m.getReturnType().getSimpleName()).append(' ').append(m.getName()).append('(');
        for (int i = 0; i < m.getParameterCount(); i++) {
            text.append(i == 0 ? "" : ",").append(m.getParameterTypes()[i].getSimpleName());
        }
        text.append(')');
        for (Class<?> e : m.getExceptionTypes()) {
            text.append(' ').append(e.getSimpleName());
        }
        return text.toString();
    }

    private static void methods() {
        TreeSet<String> seen = new TreeSet<>();
        for (Method m : ClassMaker4.class.getDeclaredMethods()) {
            if (!Modifier.isPrivate(m.getModifiers())) {
                Check.due(m + " is public", Modifier.isPublic(m.getModifiers()), true);
                Check.due(m + " is of an object", Modifier.isStatic(m.getModifiers()), false);
                seen.add(written(m));
            }
        }
        TreeSet<String> want = new TreeSet<>(Arrays.asList(FACE));
        Check.due("the face is " + seen + ", that", seen.equals(want), true);
    }

    private static void fieldsAndConstructors() {
        Check.due("NONE", ClassMaker4.NONE, -1);
        Check.due("final", Modifier.isFinal(ClassMaker4.class.getModifiers()), true);
        for (Field f : ClassMaker4.class.getDeclaredFields()) {
            boolean open = f.getName().equals("NONE");
            Check.due(f + " is private", Modifier.isPrivate(f.getModifiers()), !open);
        }
        Constructor<?>[] made = ClassMaker4.class.getDeclaredConstructors();
        Check.due("constructors", made.length, 1);
        Check.due("its parameters", made[0].getParameterCount(), 0);
        Check.due("it is public", Modifier.isPublic(made[0].getModifiers()), true);
    }
}
