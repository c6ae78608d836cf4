import java.lang.reflect.Method;
import java.nio.file.Files;
import java.nio.file.Path;
import java.util.List;
import java.util.Set;
import java.util.TreeSet;
import java.util.regex.Matcher;
import java.util.regex.Pattern;

/** What README.md says: its example answers as it tells, and it names every call. */
public final class ReadmeTest {
    private static final Pattern CALL = Pattern.compile("x\\.(\\w+)\\(([^)]*)\\); +// (-?\\d+|true|false)\\b.*");

    private ReadmeTest() {
    }

    public static void main(String[] args) throws Exception {
        List<String> lines = Files.readAllLines(Path.of("README.md"));
        int calls = 0;
        MirrorTube x = new MirrorTube();
        for (String line : lines.subList(lines.indexOf("```java") + 1, lines.lastIndexOf("```"))) {
            if (line.startsWith("x.")) {
                answersAsTold(x, line);
                calls++;
            }
        }
        Check.due("the example has calls", calls > 0, true);
        namesEveryCall(String.join("\n", lines));
        Check.end();
    }

    private static void answersAsTold(MirrorTube x, String line) throws Exception {
        Matcher told = CALL.matcher(line);
        if (!told.matches()) {
            Check.due("no call with its answer: " + line, false, true);
            return;
        }
        Object answer = method(told.group(1)).invoke(x, arguments(told.group(2)));
        Check.due(line + " answered " + answer + ", which is told", answer.toString().equals(told.group(3)), true);
    }

    private static Method method(String name) {
        for (Method m : MirrorTube.class.getMethods()) {
            if (m.getName().equals(name)) {
                return m;
            }
        }
        throw new IllegalArgumentException("README.md calls " + name);
    }

    private static Object[] arguments(String told) {
        String[] parts = told.isEmpty() ? new String[0] : told.split(", ");
        Object[] all = new Object[parts.length];
        for (int i = 0; i < parts.length; i++) {
            boolean yesOrNo = parts[i].equals("true") || parts[i].equals("false");
            all[i] = yesOrNo ? (Object) Boolean.valueOf(parts[i]) : (Object) Integer.decode(parts[i]);
        }
        return all;
    }

    private static void namesEveryCall(String readme) {
        Set<String> names = new TreeSet<>();
        for (Method m : MirrorTube.class.getDeclaredMethods()) {
            if (java.lang.reflect.Modifier.isPublic(m.getModifiers())) {
                names.add(m.getName());
            }
        }
        for (String name : names) {
            Check.due("README.md names `" + name + "`", readme.contains("`" + name + "`"), true);
        }
    }
}
