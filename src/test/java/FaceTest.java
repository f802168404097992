import java.lang.reflect.Constructor;
import java.lang.reflect.Field;
import java.lang.reflect.Method;
import java.lang.reflect.Modifier;
import java.util.Arrays;
import java.util.TreeSet;

/** The public face: what the document names, and no other member that can be seen. */
public final class FaceTest {
    private static final String[] DUE = {
        "public void OutStation.change(int,int,int) throws java.lang.IllegalArgumentException",
        "public int OutStation.point(int,int) throws java.lang.IllegalArgumentException",
        "public int OutStation.events(int) throws java.lang.IllegalArgumentException",
        "public int OutStation.hear(long,int) throws java.lang.IllegalArgumentException",
        "public void OutStation.pass(int) throws java.lang.IllegalArgumentException",
        "public int OutStation.sent(int) throws java.lang.IndexOutOfBoundsException",
        "public int OutStation.sum(long,int) throws java.lang.IllegalArgumentException",
        "public int OutStation.ask(long,int) throws java.lang.IllegalArgumentException",
        "public int OutStation.told(int) throws java.lang.IndexOutOfBoundsException"};

    public static void main(String[] args) {
        Check.run(FaceTest.class);
    }

    @Holds({"The face: the class of the document, public and final, with the public constructor, methods and constants of"
        + " the document and no other public, protected or package-visible member,",
        "No private method bears the name of a public one."})
    static void theMembers(Check check) {
        Class<?> face = OutStation.class;
        check.due("modifiers", face.getModifiers(), Modifier.PUBLIC | Modifier.FINAL);
        TreeSet<String> seen = new TreeSet<>();
        TreeSet<String> names = new TreeSet<>();
        for (Method m : face.getDeclaredMethods()) {
            if (!Modifier.isPrivate(m.getModifiers())) {
                seen.add(m.toString());
                names.add(m.getName());
            }
        }
        check.due("methods of the document in " + seen, seen.equals(new TreeSet<>(Arrays.asList(DUE))));
        for (Constructor<?> c : face.getDeclaredConstructors()) {
            check.due(c + " is public and bare", c.getModifiers() + c.getParameterCount(), Modifier.PUBLIC);
        }
        for (Field f : face.getDeclaredFields()) {
            check.due(f + " is private", f.getModifiers() & Modifier.PRIVATE, Modifier.PRIVATE);
        }
        for (Class<?> inside : face.getDeclaredClasses()) {
            check.due(inside + " is static", inside.getModifiers() & Modifier.STATIC, Modifier.STATIC);
            for (Method m : inside.getDeclaredMethods()) {
                check.due(m + " bears a name of the face", names.contains(m.getName()) ? 1 : 0, 0);
            }
        }
    }
}
