import java.lang.reflect.InvocationTargetException;
import java.lang.reflect.Method;
import java.util.ArrayList;
import java.util.Arrays;
import java.util.Collections;
import java.util.List;
import java.util.Random;

/** All promises: drawn runs of calls, each answer compared with the slow model's. */
public final class RandomRunsTest {
    private static final int RUNS = 1500;
    // What calls beyond these answer is free.
    private static final int CALLS = 512;
    private static final int CALLS_OF_ALIKE = 14;
    private static final int TEXTS = 20000;
    private static final String[] NAMES = {"a", "b", "c", "d", "at", "in", "light", "rolls", "abcdefgh", "zz"};
    private static final String[] COLOURS = {"red", "blue", "green", "bit", "tube", "red", "x"};
    private static final String[] SORTS = {"light", "plain", "heavy", "glued"};
    private static final String[] ODD = {"tube", "bit", "want", "after", "met", "holiday", "person", ";", "at", "in",
        "rolls", "0", "5", "11", "12", "99", "100", "101", "999", "1000", "007", "abcdefghi", "a", "b", "!", "A",
        "light", "\u00e9", "\t", "bits", "5a", "a5"};

    private static final Random draw = new Random(20261118L);
    private static final List<Method> face = new ArrayList<>();
    private static int calls;

    private RandomRunsTest() {
    }

    public static void main(String[] args) throws Exception {
        for (Method m : MirrorTube.class.getDeclaredMethods()) {
            if (java.lang.reflect.Modifier.isPublic(m.getModifiers())
                    && !List.of("feed", "tube").contains(m.getName())) {
                face.add(m);
            }
        }
        face.sort((p, q) -> p.getName().compareTo(q.getName()));
        for (int k = 0; k < TEXTS; k++) {
            MirrorTube x = new MirrorTube();
            SlowTube y = new SlowTube();
            tell(x, y, text());
        }
        for (int k = 0; k < RUNS; k++) {
            run();
        }
        Check.end();
    }

    private static void run() throws Exception {
        calls = 0;
        MirrorTube x = new MirrorTube();
        SlowTube y = new SlowTube();
        if (draw.nextInt(10) > 0) {
            tell(x, y, validText());
        }
        List<Method> acts = new ArrayList<>();
        for (Method m : face) {
            if (List.of("turn", "go", "waits", "undo", "image", "back").contains(m.getName())) {
                acts.add(m);
            }
        }
        // A text is 40 feeds at most and a tube().
        while (calls + 41 + 2 * CALLS_OF_ALIKE < CALLS) {
            if (draw.nextInt(150) == 0) {
                tell(x, y, draw.nextBoolean() ? text() : validText());
            }
            Method m = draw.nextInt(4) == 0 ? acts.get(draw.nextInt(acts.size())) : face.get(draw.nextInt(face.size()));
            call(x, y, m);
        }
    }

    private static void call(MirrorTube x, SlowTube y, Method m) throws Exception {
        Object[] args = new Object[m.getParameterCount()];
        for (int i = 0; i < args.length; i++) {
            args[i] = m.getParameterTypes()[i] == boolean.class ? (Object) draw.nextBoolean()
                    : (Object) number(m.getName(), i);
        }
        String name = m.getName() + Arrays.toString(args);
        Method slow = SlowTube.class.getDeclaredMethod(m.getName(), m.getParameterTypes());
        Check.due(name, result(m, x, args), result(slow, y, args));
        Check.due("trouble() behind " + name, x.trouble(), y.trouble());
        calls += 2;
        if (draw.nextInt(12) == 0) {
            alike(x, y, name);
        }
    }

    private static void alike(MirrorTube x, SlowTube y, String name) {
        calls += CALLS_OF_ALIKE;
        Check.due("trouble() behind " + name, x.trouble(), y.trouble());
        Check.due("where() behind " + name, x.where(), y.where());
        Check.due("fault() behind " + name, x.fault(), y.fault());
        for (int what = 0; what <= 10; what++) {
            Check.due("size(" + what + ") behind " + name, x.size(what), y.size(what));
        }
    }

    private static long result(Method m, Object on, Object[] args) throws Exception {
        try {
            Object value = m.invoke(on, args);
            return value instanceof Boolean ? ((Boolean) value ? 1 : 0) : ((Number) value).longValue();
        } catch (InvocationTargetException e) {
            if (e.getCause() instanceof java.util.NoSuchElementException && m.getName().equals("led")) {
                return Long.MIN_VALUE;
            }
            throw e;
        }
    }

    private static int number(String call, int place) {
        int kind = draw.nextInt(40);
        if (kind == 0) {
            return new int[] {Integer.MIN_VALUE, Integer.MAX_VALUE, -100, 100, 65536, 65537, 1000}[draw.nextInt(7)];
        }
        if (call.matches("shaken|topDays|rightDays")) {
            boolean days = place == (call.equals("rightDays") ? 1 : 2);
            boolean seed = place == (call.equals("rightDays") ? 0 : 1);
            if (days) {
                return draw.nextInt(64) - 1;
            }
            if (seed) {
                return draw.nextInt(65540) - 1;
            }
        }
        if (call.equals("waits")) {
            return draw.nextInt(3) == 0 ? draw.nextInt(103) - 1 : draw.nextInt(5);
        }
        if (call.equals("madeAt") && place == 1) {
            return draw.nextBoolean() ? draw.nextInt(4) : draw.nextInt(300);
        }
        if (call.matches("turn|behind|topsBehind|two") && !(call.equals("behind") && place == 0)) {
            return draw.nextInt(10) == 0 ? draw.nextInt(17) - 8 : draw.nextInt(7) - 3;
        }
        if (call.matches("made|madeAt|same|turnAt|go|person|nearest|back|rolls|rollsMore|image|led")) {
            return draw.nextInt(6) == 0 ? draw.nextInt(11) - 1 : draw.nextInt(5);
        }
        return draw.nextInt(8) == 0 ? draw.nextInt(15) - 1 : draw.nextInt(6);
    }

    private static void tell(MirrorTube x, SlowTube y, String text) {
        byte[] bytes = Check.bytes(text);
        for (int from = 0; from < bytes.length; from += 20) {
            int a = Check.word(bytes, from);
            int b = Check.word(bytes, from + 4);
            int c = Check.word(bytes, from + 8);
            int d = Check.word(bytes, from + 12);
            int e = Check.word(bytes, from + 16);
            Check.due("feed of " + text, x.feed(a, b, c, d, e), y.feed(a, b, c, d, e));
            calls++;
        }
        int n = draw.nextInt(20) == 0 ? draw.nextInt(bytes.length + 30) - 3 : bytes.length;
        String name = "tube(" + n + ") of " + text;
        Check.due(name, x.tube(n), y.tube(n));
        calls++;
        alike(x, y, name);
    }

    private static String validText() {
        List<String> names = new ArrayList<>(Arrays.asList(NAMES));
        Collections.shuffle(names, draw);
        List<String> lines = new ArrayList<>();
        int bits = 1 + draw.nextInt(6);
        int crowd = 1 + draw.nextInt(12);
        for (int b = 0; b < bits; b++) {
            lines.add("bit " + names.get(b) + " " + SORTS[draw.nextInt(4)] + " " + COLOURS[draw.nextInt(7)]
                    + " at " + draw.nextInt(crowd));
        }
        for (int b = 0; b < bits; b++) {
            if (draw.nextInt(3) == 0) {
                lines.add("want " + names.get(b) + " at " + draw.nextInt(12));
            }
            if (draw.nextInt(3) == 0) {
                lines.add("after " + names.get(b) + " at " + draw.nextInt(12));
            }
        }
        int people = draw.nextInt(5);
        for (int p = 0; p < people; p++) {
            lines.add("person " + names.get(bits + p) + " in " + draw.nextInt(6) + " at " + draw.nextInt(12));
        }
        more(lines, draw.nextInt(4) == 0 ? draw.nextInt(7) : draw.nextInt(2), 12, "met ");
        more(lines, draw.nextInt(9), draw.nextBoolean() ? 12 : 100, "holiday ");
        Collections.shuffle(lines.subList(bits, lines.size()), draw);
        StringBuilder text = new StringBuilder("tube rolls " + draw.nextInt(101));
        for (String line : lines) {
            text.append(draw.nextInt(9) == 0 ? " ; " : ";").append(line);
        }
        return text.toString();
    }

    private static void more(List<String> lines, int count, int below, String line) {
        List<Integer> all = new ArrayList<>();
        for (int n = 0; n < below; n++) {
            all.add(n);
        }
        Collections.shuffle(all, draw);
        for (int k = 0; k < count; k++) {
            lines.add(line + all.get(k) + (line.equals("met ") ? " " + COLOURS[draw.nextInt(7)] : ""));
        }
    }

    /** A text that is right or nearly so: some tokens gone, put in, told twice or swapped. */
    private static String text() {
        String text = validText();
        int changes = draw.nextInt(4);
        for (int k = 0; k < changes; k++) {
            List<String> tokens = new ArrayList<>(Arrays.asList(text.replace(";", " ; ").trim().split(" +")));
            int at = draw.nextInt(tokens.size());
            switch (draw.nextInt(6)) {
                case 0:
                    tokens.remove(at);
                    break;
                case 1:
                    tokens.add(at, ODD[draw.nextInt(ODD.length)]);
                    break;
                case 2:
                    tokens.set(at, ODD[draw.nextInt(ODD.length)]);
                    break;
                case 3:
                    tokens.set(at, tokens.get(draw.nextInt(tokens.size())));
                    break;
                case 4:
                    tokens = againLine(tokens);
                    break;
                default:
                    tokens = tokens.subList(0, at);
                    break;
            }
            text = String.join(draw.nextInt(5) == 0 ? "  " : " ", tokens);
            if (text.isEmpty()) {
                return text;
            }
        }
        return draw.nextInt(8) == 0 ? text.replace(" ;", ";") + "  " : text;
    }

    private static List<String> againLine(List<String> tokens) {
        List<String> lines = new ArrayList<>(Arrays.asList(String.join(" ", tokens).split(" ; ")));
        lines.add(draw.nextInt(lines.size() + 1), lines.get(draw.nextInt(lines.size())));
        return new ArrayList<>(Arrays.asList(String.join(" ; ", lines).split(" ")));
    }
}
