import java.lang.reflect.Constructor;
import java.lang.reflect.Field;
import java.lang.reflect.Method;
import java.lang.reflect.Modifier;
import java.util.Arrays;
import java.util.Set;
import java.util.TreeSet;

/** The public face of the document, and nothing beside it. */
final class FaceTest {
    private static final Set<String> FACE = new TreeSet<>(Arrays.asList(
        "public static final int PlaceFinder.NONE",
        "public PlaceFinder()",
        "public void PlaceFinder.sheet(int,int) throws java.lang.IllegalArgumentException",
        "public int PlaceFinder.turn(int,int,long)",
        "public int PlaceFinder.fill(int,int,int,int,boolean) throws java.lang.IllegalArgumentException",
        "public int PlaceFinder.draw(int,int,int) throws java.lang.IllegalArgumentException",
        "public long PlaceFinder.dots(int,int)",
        "public int PlaceFinder.find(int,int,int) throws java.lang.IllegalArgumentException",
        "public int PlaceFinder.stood()",
        "public int PlaceFinder.place(int,int) throws java.lang.IllegalArgumentException",
        "public long PlaceFinder.modules(int,int,int) throws java.lang.IndexOutOfBoundsException"));

    private FaceTest() {
    }

    public static void main(String[] args) {
        Class<?> c = PlaceFinder.class;
        Set<String> seen = new TreeSet<>();
        for (Field field : c.getDeclaredFields()) {
            keep(seen, field.getModifiers(), field.toString());
        }
        for (Constructor<?> constructor : c.getDeclaredConstructors()) {
            keep(seen, constructor.getModifiers(), constructor.toString());
        }
        for (Method method : c.getDeclaredMethods()) {
            keep(seen, method.getModifiers(), method.toString());
        }
        Set<String> missing = new TreeSet<>(FACE);
        missing.removeAll(seen);
        seen.removeAll(FACE);
        missing.forEach(member -> System.out.println("missing: " + member));
        seen.forEach(member -> System.out.println("not of the face: " + member));
        Check.equal("members that are missing", missing.size(), 0);
        Check.equal("members that are too many", seen.size(), 0);
        Check.equal("public and final", c.getModifiers(), Modifier.PUBLIC | Modifier.FINAL);
        Check.end();
    }

    private static void keep(Set<String> seen, int modifiers, String member) {
        if (!Modifier.isPrivate(modifiers)) {
            seen.add(member);
        }
    }
}
