import java.lang.reflect.Constructor;
import java.lang.reflect.Field;
import java.lang.reflect.Method;
import java.lang.reflect.Modifier;
import java.util.TreeSet;

/** The public face is the document's, and no more of the class can be seen. */
public final class FaceTest {
    public static void main(String[] args) {
        Class<?> face = PortTimers.class;
        Check.due("modifiers of the class", Modifier.toString(face.getModifiers()), "public final");
        methodsAreTheDocuments(face);
        Constructor<?>[] constructors = face.getDeclaredConstructors();
        Check.due("how many constructors", constructors.length, 1);
        Check.due("the constructor", constructors[0].toString(), "public PortTimers()");
        for (Field field : face.getDeclaredFields()) {
            Check.due(field + " is private", Modifier.isPrivate(field.getModifiers()), true);
        }
        Check.end();
    }

    private static void methodsAreTheDocuments(Class<?> face) {
        TreeSet<String> names = new TreeSet<>();
        for (Method method : face.getDeclaredMethods()) {
            if (!Modifier.isPrivate(method.getModifiers())) {
                names.add(method.toString());
            }
        }
        String thrown = " throws java.lang.IllegalArgumentException";
        TreeSet<String> wanted = new TreeSet<>();
        wanted.add("public void PortTimers.write(int,int)" + thrown);
        wanted.add("public int PortTimers.read(int)" + thrown);
        wanted.add("public void PortTimers.pins(int,int)" + thrown);
        wanted.add("public boolean PortTimers.line(int,boolean)" + thrown);
        wanted.add("public int PortTimers.step(int)" + thrown);
        wanted.add("public int PortTimers.out(int)" + thrown);
        wanted.add("public int PortTimers.told(int)" + thrown);
        wanted.add("public void PortTimers.reset()");
        Check.due("the methods", names.toString(), wanted.toString());
    }
}
