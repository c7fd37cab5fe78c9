import java.lang.reflect.Constructor;
import java.lang.reflect.Field;
import java.lang.reflect.Method;
import java.lang.reflect.Modifier;
import java.util.Arrays;
import java.util.TreeSet;

/** The public face: just the constructor and the methods of the document. */
public final class FaceTest {
    public static void main(String[] args) {
        Check check = new Check("FaceTest");
        Class<?> face = SlabPantry.class;
        check.same("class", Modifier.toString(face.getModifiers()), "public final");
        Constructor<?>[] made = face.getDeclaredConstructors();
        check.same("constructors", Arrays.toString(made), "[public SlabPantry()]");
        TreeSet<String> methods = new TreeSet<>();
        for (Method method : face.getDeclaredMethods()) {
            if (!Modifier.isPrivate(method.getModifiers())) {
                methods.add(method.toString().replace("SlabPantry.", "").replace("java.lang.", ""));
            }
        }
        TreeSet<String> due = new TreeSet<>(Arrays.asList(
            "public boolean write(long)",
            "public int wipe()",
            "public int send()",
            "public char reply(int) throws IndexOutOfBoundsException",
            "public void tick(int) throws IllegalArgumentException",
            "public int slab(int,int) throws IllegalArgumentException",
            "public int order(int,int) throws IllegalArgumentException,IndexOutOfBoundsException",
            "public int figure(int) throws IllegalArgumentException"));
        check.same("methods", methods.toString(), due.toString());
        for (Field field : face.getDeclaredFields()) {
            check.same(field.getName() + " is private", Modifier.isPrivate(field.getModifiers()), true);
        }
        check.finish();
    }
}
