import java.lang.reflect.Constructor;
import java.lang.reflect.Field;
import java.lang.reflect.Method;
import java.lang.reflect.Modifier;
import java.util.Arrays;
import java.util.Set;
import java.util.TreeSet;

/** The public face: the document's members and no other that can be seen from outside. */
public final class FaceTest {
    private static final String[] METHODS = {
        "int wind(int, int)", "int gives(int)", "long still(int)", "long change()",
        "int sheet(int, int, int)", "int drop(int)", "int item(int, int, int, int)",
        "int source(int, int, int, int)", "int door(int, int)", "int lose(int, boolean)",
        "int hours(int, int)", "long grains(int, int)", "long total(int, int)",
        "long hour(int, int, int)", "int kept(int, int)", "long mean(int)", "long rank(int, int)",
        "long rolling(int, int)", "int watch(int, boolean)", "int law(int, int)", "int price(int, int)",
        "int cheapest(int)"};

    public static void main(String[] args) {
        Due.holds("public and final", Modifier.isPublic(WindBoxes.class.getModifiers())
            && Modifier.isFinal(WindBoxes.class.getModifiers()));
        methods();
        fields();
        Constructor<?>[] made = WindBoxes.class.getDeclaredConstructors();
        Due.holds("one public constructor", made.length == 1 && Modifier.isPublic(made[0].getModifiers())
            && made[0].getParameterCount() == 0);
        names();
        Due.end();
    }

    private static void methods() {
        Set<String> seen = new TreeSet<>();
        for (Method m : WindBoxes.class.getDeclaredMethods()) {
            if (!Modifier.isPrivate(m.getModifiers())) {
                String kinds = Arrays.toString(m.getParameterTypes());
                seen.add(m.getReturnType() + " " + m.getName() + "(" + kinds.substring(1, kinds.length() - 1) + ")");
                Due.holds(m.getName() + " is public and not static", Modifier.isPublic(m.getModifiers())
                    && !Modifier.isStatic(m.getModifiers()));
            }
        }
        Due.holds("methods " + seen, seen.equals(new TreeSet<>(Arrays.asList(METHODS))));
    }

    private static void fields() {
        int seen = 0;
        for (Field f : WindBoxes.class.getDeclaredFields()) {
            seen += Modifier.isPrivate(f.getModifiers()) ? 0 : 1;
            Due.holds(f.getName() + " is not static, or final", !Modifier.isStatic(f.getModifiers())
                || Modifier.isFinal(f.getModifiers()));
        }
        Due.same("constants", seen, 8);
        Due.same("BAD", WindBoxes.BAD, -1);
        Due.same("NOT", WindBoxes.NOT, -2);
        Due.same("FULL", WindBoxes.FULL, -3);
        Due.same("NONE", WindBoxes.NONE, -4);
        Due.same("NULL", WindBoxes.NULL, -11);
        Due.same("CAST", WindBoxes.CAST, -12);
        Due.same("INDEX", WindBoxes.INDEX, -13);
        Due.same("SIZE", WindBoxes.SIZE, -14);
    }

    private static void names() {
        Set<String> open = new TreeSet<>();
        for (Method m : WindBoxes.class.getMethods()) {
            open.add(m.getName());
        }
        for (Method m : WindBoxes.class.getDeclaredMethods()) {
            Due.holds("no private method is named as a public one: " + m.getName(),
                !Modifier.isPrivate(m.getModifiers()) || !open.contains(m.getName()));
        }
        for (Class<?> c : WindBoxes.class.getDeclaredClasses()) {
            Due.holds(c.getName() + " is static and not public", Modifier.isStatic(c.getModifiers())
                && !Modifier.isPublic(c.getModifiers()));
            for (Method m : c.getDeclaredMethods()) {
                Due.holds("no method inside is named as a public one: " + m.getName(), !open.contains(m.getName()));
            }
        }
    }
}
