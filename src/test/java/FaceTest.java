import java.lang.reflect.Constructor;
import java.lang.reflect.Field;
import java.lang.reflect.Method;
import java.lang.reflect.Modifier;
import java.util.ArrayList;
import java.util.List;
import java.util.Set;
import java.util.TreeSet;

/** The public face, no less and no more than the document's. */
public final class FaceTest {
    private static final String[] CALLS = {
        "int feed(int,int,int,int,int)", "int tube(int)", "int fault()", "int where()", "int bit(int,int)",
        "int top(int)", "int stack(int)", "int seen(int,int)", "int lies(int,int)", "int under()",
        "int until(int)", "int behind(int,int)", "int topsBehind(int)", "int twins()", "int mostTops()",
        "int right()", "int turnsTo()", "int turnAt(int)", "int bestTurn()", "int can(int,int)",
        "int made(int)", "int madeAt(int,int)", "int fewestMade()", "int same(int)", "int joins(int)",
        "int alike(int,int)", "int which()", "int surely()", "int look()", "int lookLeaves()",
        "int judge(int)", "long rolls(int,int,boolean)", "long rollsMore(int,int,boolean)", "int watch(int)",
        "int person(int,int)", "int way(int,int,int)", "int wayUp(int,int,int)", "int nearest(int,int)",
        "int farthest(int)", "int ring()", "int two(int,int,boolean)", "int rests()", "int rest()",
        "int shaken(int,int,int)", "int topDays(int,int,int)", "int rightDays(int,int)", "int turn(int)",
        "int go(int,boolean)", "int waits(int)", "boolean undo()", "int image()", "boolean back(int)",
        "int led(int)", "int size(int)", "int trouble()"};

    private FaceTest() {
    }

    public static void main(String[] args) {
        Set<String> found = new TreeSet<>();
        List<String> names = new ArrayList<>();
        for (Method m : MirrorTube.class.getDeclaredMethods()) {
            if (Modifier.isPublic(m.getModifiers())) {
                found.add(spelled(m));
                names.add(m.getName());
                Check.due(m.getName() + " is static", Modifier.isStatic(m.getModifiers()), false);
            }
        }
        Check.due("the calls are those of the document", found.equals(new TreeSet<>(List.of(CALLS))), true);
        hidesTheRest(names);
        Check.due("the class is public and final",
                MirrorTube.class.getModifiers() == (Modifier.PUBLIC | Modifier.FINAL), true);
        Check.due("constructors", MirrorTube.class.getDeclaredConstructors().length, 1);
        for (Constructor<?> c : MirrorTube.class.getDeclaredConstructors()) {
            Check.due("the constructor is public, without parameters",
                    Modifier.isPublic(c.getModifiers()) && c.getParameterCount() == 0, true);
        }
        Check.due("NONE", MirrorTube.NONE, -1);
        Check.end();
    }

    private static void hidesTheRest(List<String> names) {
        for (Method m : MirrorTube.class.getDeclaredMethods()) {
            if (!Modifier.isPublic(m.getModifiers())) {
                Check.due(m.getName() + " is private", Modifier.isPrivate(m.getModifiers()), true);
                Check.due(m.getName() + " bears a public name", names.contains(m.getName()), false);
            }
        }
        for (Field f : MirrorTube.class.getDeclaredFields()) {
            boolean constant = f.getName().equals("NONE");
            Check.due(f.getName() + " is public", Modifier.isPublic(f.getModifiers()), constant);
            Check.due(f.getName() + " is private", Modifier.isPrivate(f.getModifiers()), !constant);
            Check.due(f.getName() + ", if static, is final",
                    !Modifier.isStatic(f.getModifiers()) || Modifier.isFinal(f.getModifiers()), true);
        }
        for (Class<?> c : MirrorTube.class.getDeclaredClasses()) {
            Check.due(c.getName() + " is static", Modifier.isStatic(c.getModifiers()), true);
            Check.due(c.getName() + " is public", Modifier.isPublic(c.getModifiers()), false);
            for (Method m : c.getDeclaredMethods()) {
                Check.due(c.getName() + "." + m.getName() + " bears a public name", names.contains(m.getName()), false);
            }
        }
    }

    private static String spelled(Method m) {
        List<String> types = new ArrayList<>();
        for (Class<?> type : m.getParameterTypes()) {
            types.add(type.getName());
        }
        return m.getReturnType().getName() + " " + m.getName() + "(" + String.join(",", types) + ")";
    }
}
