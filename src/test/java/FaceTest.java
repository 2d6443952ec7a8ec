import java.lang.reflect.Constructor;
import java.lang.reflect.Field;
import java.lang.reflect.Method;
import java.lang.reflect.Modifier;
import java.util.Set;
import java.util.TreeSet;

/** The public face is the document's, no more of the class can be seen, and nothing is shared. */
public final class FaceTest {
    private static final Set<String> PUBLIC_NAMES =
            Set.of("write", "read", "pins", "line", "step", "out", "told", "reset");

    public static void main(String[] args) {
        Class<?> face = PortTimers.class;
        Check.due("modifiers of the class", Modifier.toString(face.getModifiers()), "public final");
        methodsAreTheDocuments(face);
        Constructor<?>[] constructors = face.getDeclaredConstructors();
        Check.due("how many constructors", constructors.length, 1);
        Check.due("the constructor", constructors[0].toString(), "public PortTimers()");
        for (Field field : face.getDeclaredFields()) {
            Check.due(field + " is private", Modifier.isPrivate(field.getModifiers()), true);
        }
        staticFieldsAreFinal(face);
        noOtherMethodBearsAPublicName(face);
        for (Class<?> inside : face.getDeclaredClasses()) {
            int modifiers = inside.getModifiers();
            Check.due(inside + " is private", Modifier.isPrivate(modifiers), true);
            Check.due(inside + " is static", Modifier.isStatic(modifiers), true);
            staticFieldsAreFinal(inside);
            noOtherMethodBearsAPublicName(inside);
        }
        Check.end();
    }

    private static void staticFieldsAreFinal(Class<?> owner) {
        for (Field field : owner.getDeclaredFields()) {
            int modifiers = field.getModifiers();
            boolean kept = !Modifier.isStatic(modifiers) || Modifier.isFinal(modifiers);
            Check.due(field + " is final if static", kept, true);
        }
    }

    private static void noOtherMethodBearsAPublicName(Class<?> owner) {
        for (Method method : owner.getDeclaredMethods()) {
            boolean kept = Modifier.isPublic(method.getModifiers())
                    || !PUBLIC_NAMES.contains(method.getName());
            Check.due(method + " bears no public name", kept, true);
        }
    }

    private static void methodsAreTheDocuments(Class<?> face) {
        TreeSet<String> names = new TreeSet<>();
        for (Method method : face.getDeclaredMethods()) {
            if (!Modifier.isPrivate(method.getModifiers())) {
                names.add(method.toString());
            }
        }
        String thrown = " throws java.lang.IllegalArgumentException";
        TreeSet<String> wanted = new TreeSet<>();
        wanted.add("public void PortTimers.write(int,int)" + thrown);
        wanted.add("public int PortTimers.read(int)" + thrown);
        wanted.add("public void PortTimers.pins(int,int)" + thrown);
        wanted.add("public boolean PortTimers.line(int,boolean)" + thrown);
        wanted.add("public int PortTimers.step(int)" + thrown);
        wanted.add("public int PortTimers.out(int)" + thrown);
        wanted.add("public int PortTimers.told(int)" + thrown);
        wanted.add("public void PortTimers.reset()");
        Check.due("the methods", names.toString(), wanted.toString());
    }
}
