import java.lang.reflect.Constructor;
import java.lang.reflect.Field;
import java.lang.reflect.Method;
import java.lang.reflect.Modifier;
import java.util.Set;
import java.util.TreeSet;

/** The class has the document's public face and shows nothing else. */
public final class FaceTest {
    private static final Set<String> FACE = Set.of(
            "void region(int,int,int) IllegalArgumentException IllegalStateException UnsupportedOperationException",
            "void load(int,int) IllegalArgumentException IllegalStateException",
            "void policy(int,int) IllegalArgumentException IllegalStateException",
            "int window(int,int) IllegalArgumentException IllegalStateException",
            "void channel(int,int,int,int) IllegalArgumentException IllegalStateException",
            "int boot() IllegalStateException",
            "void reset() IllegalStateException",
            "int run(int) IllegalArgumentException IllegalStateException",
            "int quote(int) IllegalStateException",
            "int register(int,int) IllegalArgumentException IllegalStateException",
            "int memory(int) IllegalArgumentException",
            "int told(int,int) IllegalArgumentException",
            "int object(int,int) IllegalArgumentException",
            "int count(int)");

    public static void main(String[] args) {
        Class<SeparationMonitor> face = SeparationMonitor.class;
        Check.isTrue("public and final", face.getModifiers() == (Modifier.PUBLIC | Modifier.FINAL));
        Set<String> shown = new TreeSet<>();
        for (Method m : face.getDeclaredMethods()) {
            if (!Modifier.isPrivate(m.getModifiers())) {
                shown.add(written(m));
                Check.isTrue(m + " is public and nothing else", m.getModifiers() == Modifier.PUBLIC);
            }
        }
        Check.isTrue("the face is " + shown, shown.equals(FACE));
        for (Field f : face.getDeclaredFields()) {
            Check.isTrue(f + " is private", Modifier.isPrivate(f.getModifiers()));
        }
        Constructor<?>[] constructors = face.getDeclaredConstructors();
        Check.due("constructors", constructors.length, 1);
        Check.isTrue("the constructor is public", Modifier.isPublic(constructors[0].getModifiers()));
        Check.isTrue("the constructor takes an int", constructors[0].getParameterCount() == 1
                && constructors[0].getParameterTypes()[0] == int.class);
        for (Class<?> c : face.getDeclaredClasses()) {
            Check.isTrue(c + " is static and not public", Modifier.isStatic(c.getModifiers())
                    && !Modifier.isPublic(c.getModifiers()) && !Modifier.isProtected(c.getModifiers()));
        }
        Check.done();
    }

    private static String written(Method m) {
        StringBuilder text = new StringBuilder(m.getReturnType().getName()).append(' ').append(m.getName()).append('(');
        for (Class<?> type : m.getParameterTypes()) {
            text.append(text.charAt(text.length() - 1) == '(' ? "" : ",").append(type.getName());
        }
        text.append(')');
        for (Class<?> type : m.getExceptionTypes()) {
            text.append(' ').append(type.getSimpleName());
        }
        return text.toString();
    }
}
