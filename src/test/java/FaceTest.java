import java.lang.reflect.Constructor;
import java.lang.reflect.Field;
import java.lang.reflect.Method;
import java.lang.reflect.Modifier;
import java.util.Arrays;
import java.util.List;
import java.util.TreeSet;

/** The public face: what the document shows, and nothing else that can be seen from outside. */
public final class FaceTest {
    private static final List<String> FACE = Arrays.asList(
        "int land(int, boolean)", "int chart(int)", "int wind(int, int, int)", "int tear(int)",
        "int copy(int, int, int, int, int)", "int mean(int)", "int ship(int, int, int)", "int foul(int, int)",
        "int told(int, int)", "int mark(int, int)", "int speed(int, int, int, int)",
        "int order(int, int, int, int, int, int, int)", "int home(int, int)", "int run(int)", "int first()",
        "int least(int, int, int, int)", "int sight(int, int, int)", "int distance(int, int, boolean)",
        "int ahead(int, int, int)", "int charter(int, int, int)", "int freight(int)", "int market(int, int)",
        "int sale(int)", "int meanPrice()", "long asked()", "int count(int)", "int finding()", "int findings(int)",
        "long digest()");

    public static void main(String[] args) throws IllegalAccessException {
        int open = Modifier.PUBLIC | Modifier.PROTECTED | Modifier.PRIVATE;
        Check.holds("the class is public and final",
            Modifier.isPublic(TeaRace.class.getModifiers()) && Modifier.isFinal(TeaRace.class.getModifiers()));
        Check.due("constructors", TeaRace.class.getDeclaredConstructors().length, 1);
        for (Constructor<?> c : TeaRace.class.getDeclaredConstructors()) {
            Check.holds("the constructor is public, without parameters",
                Modifier.isPublic(c.getModifiers()) && c.getParameterCount() == 0);
        }
        TreeSet<String> shown = new TreeSet<>();
        TreeSet<String> hidden = new TreeSet<>();
        for (Method m : TeaRace.class.getDeclaredMethods()) {
            if ((m.getModifiers() & open) == Modifier.PRIVATE) {
                hidden.add(m.getName());
            } else {
                shown.add(signature(m));
            }
        }
        Check.holds("the methods of the face: " + shown, shown.equals(new TreeSet<>(FACE)));
        for (String method : FACE) {
            String name = method.substring(method.indexOf(' ') + 1, method.indexOf('('));
            Check.holds("no private method is named " + name, !hidden.contains(name));
        }
        constants(open);
        for (Class<?> inside : TeaRace.class.getDeclaredClasses()) {
            Check.holds("a class inside is static: " + inside, Modifier.isStatic(inside.getModifiers()));
            Check.holds("a class inside is not public: " + inside, !Modifier.isPublic(inside.getModifiers()));
        }
        Check.close("FaceTest");
    }

    private static String signature(Method m) {
        StringBuilder text = new StringBuilder().append(m.getReturnType()).append(' ').append(m.getName()).append('(');
        for (int i = 0; i < m.getParameterCount(); i++) {
            text.append(i == 0 ? "" : ", ").append(m.getParameterTypes()[i]);
        }
        return text.append(')').toString();
    }

    private static void constants(int open) throws IllegalAccessException {
        List<String> names = Arrays.asList("BAD", "FULL", "FINDING", "STATE", "NONE");
        int[] values = {-1, -2, -3, -4, -9};
        int seen = 0;
        for (Field f : TeaRace.class.getDeclaredFields()) {
            if ((f.getModifiers() & open) == Modifier.PRIVATE) {
                continue;
            }
            int at = names.indexOf(f.getName());
            Check.holds("a constant of the document: " + f, at >= 0
                && f.getModifiers() == (Modifier.PUBLIC | Modifier.STATIC | Modifier.FINAL) && f.getType() == int.class);
            if (at >= 0) {
                Check.due(f.getName(), f.getInt(null), values[at]);
                seen++;
            }
        }
        Check.due("constants", seen, names.size());
    }
}
