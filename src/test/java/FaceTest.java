import java.lang.reflect.Constructor;
import java.lang.reflect.Field;
import java.lang.reflect.Method;
import java.lang.reflect.Modifier;
import java.util.Set;
import java.util.TreeSet;

/** The class has the document's face and no other visible member. */
public final class FaceTest {
    public static void main(String[] args) {
        Checks checks = new Checks();
        checks.due("modifiers", Modifier.toString(CarDisk.class.getModifiers()), "public final");
        checks.due("methods", visibleMethods().toString(), dueMethods().toString());
        checks.due("constructors", visibleConstructors().toString(), "[public CarDisk(int)]");
        checks.due("fields", visibleFields().toString(), "[]");
        checks.finish();
    }

    private static Set<String> dueMethods() {
        return new TreeSet<>(Set.of(
            "public void CarDisk.add(byte)",
            "public int CarDisk.end(int)",
            "public int CarDisk.sync()",
            "public void CarDisk.cut(int,int)",
            "public int CarDisk.open()",
            "public byte CarDisk.at(int,int,int) throws java.lang.ArrayIndexOutOfBoundsException",
            "public int CarDisk.poke(int,int)",
            "public int CarDisk.wrong(int)",
            "public int CarDisk.snapshot()",
            "public int CarDisk.log(int)",
            "public int CarDisk.flash(int,int)",
            "public int CarDisk.space(int)"));
    }

    private static Set<String> visibleMethods() {
        Set<String> names = new TreeSet<>();
        for (Method method : CarDisk.class.getDeclaredMethods()) {
            if (!Modifier.isPrivate(method.getModifiers()) && !method.isSynthetic()) {
                names.add(method.toString());
            }
        }
        return names;
    }

    private static Set<String> visibleConstructors() {
        Set<String> names = new TreeSet<>();
        for (Constructor<?> made : CarDisk.class.getDeclaredConstructors()) {
            if (!Modifier.isPrivate(made.getModifiers()) && !made.isSynthetic()) {
                names.add(made.toString());
            }
        }
        return names;
    }

    private static Set<String> visibleFields() {
        Set<String> names = new TreeSet<>();
        for (Field field : CarDisk.class.getDeclaredFields()) {
            if (!Modifier.isPrivate(field.getModifiers()) && !field.isSynthetic()) {
                names.add(field.toString());
            }
        }
        return names;
    }
}
