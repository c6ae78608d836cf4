import java.nio.charset.StandardCharsets;
import java.util.Set;
import java.util.TreeSet;

/** What the tests of the project share: answers compared, texts fed. */
final class Check {
    private static int wrong = 0;
    private static int looked = 0;
    private static String heading = "";
    private static final Set<Integer> promises = new TreeSet<>();

    private Check() {
    }

    /** The answers from here on are those that these words of the document, behind this promise, ask for. */
    static void promise(int number, String words) {
        heading = "promise " + number + ", '" + words + "': ";
        promises.add(number);
    }

    static void allPromisesWereNamed(int last) {
        heading = "";
        for (int number = 1; number <= last; number++) {
            due("promise " + number + " was named", promises.contains(number), true);
        }
    }

    static void due(String call, long got, long want) {
        looked++;
        if (got != want) {
            wrong++;
            System.out.println(heading + call + " answered " + got + ", due is " + want);
        }
    }

    static void due(String call, boolean got, boolean want) {
        due(call, got ? 1 : 0, want ? 1 : 0);
    }

    /** The call before was refused by this number, and the answer was the refusal. */
    static void refused(MirrorTube x, String call, long got, int trouble) {
        due(call, got, MirrorTube.NONE);
        due("trouble() behind " + call, x.trouble(), trouble);
    }

    static void answered(MirrorTube x, String call, long got, long want) {
        due(call, got, want);
        due("trouble() behind " + call, x.trouble(), 0);
    }

    static int word(byte[] bytes, int from) {
        int number = 0;
        for (int i = from; i < from + 4; i++) {
            number = number << 8 | (i < bytes.length ? bytes[i] & 255 : ' ');
        }
        return number;
    }

    static byte[] bytes(String text) {
        return text.getBytes(StandardCharsets.ISO_8859_1);
    }

    static int feed(MirrorTube x, String text) {
        byte[] bytes = bytes(text);
        int answer = x.size(10);
        for (int from = 0; from < bytes.length; from += 20) {
            answer = x.feed(word(bytes, from), word(bytes, from + 4), word(bytes, from + 8),
                    word(bytes, from + 12), word(bytes, from + 16));
        }
        return answer;
    }

    static int tell(MirrorTube x, String text) {
        feed(x, text);
        return x.tube(bytes(text).length);
    }

    static MirrorTube told(String text) {
        MirrorTube x = new MirrorTube();
        if (tell(x, text) < 1) {
            due("tube() of " + text + ", fault " + x.fault() + " at " + x.where(), 0, 1);
        }
        return x;
    }

    static void end() {
        System.out.println(wrong == 0 ? "all " + looked + " answers are as due"
                : wrong + " of " + looked + " answers are not as due");
        if (wrong != 0) {
            System.exit(1);
        }
    }
}
