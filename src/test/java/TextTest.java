/** Promises 1 to 5: a new object, feed, tube, fault, where; and the faults of a text. */
public final class TextTest {
    private static final String HEAD = "tube rolls 5;bit a light red at 0";

    private TextTest() {
    }

    public static void main(String[] args) {
        newObject();
        feeding();
        telling();
        tokens();
        form();
        names();
        again();
        bounds();
        many();
        lacks();
        whereAndFault();
        Check.end();
    }

    private static void faulty(String text, int fault, int place) {
        MirrorTube x = new MirrorTube();
        Check.refused(x, "tube() of '" + text + "'", Check.tell(x, text), 4);
        Check.due("fault() of '" + text + "'", x.fault(), fault);
        Check.due("where() of '" + text + "'", x.where(), place);
        Check.due("size(1) behind a fault", x.size(1), 0);
        Check.due("size(10) behind a fault", x.size(10), 0);
    }

    private static void good(String text, int bits) {
        MirrorTube x = new MirrorTube();
        Check.answered(x, "tube() of '" + text + "'", Check.tell(x, text), bits);
        Check.due("fault() of '" + text + "'", x.fault(), 0);
        Check.due("where() of '" + text + "'", x.where(), -1);
    }

    private static void newObject() {
        MirrorTube x = new MirrorTube();
        Check.due("trouble()", x.trouble(), 0);
        Check.due("fault()", x.fault(), 0);
        Check.due("where()", x.where(), -1);
        for (int what = 0; what <= 10; what++) {
            Check.due("size(" + what + ")", x.size(what), 0);
        }
        Check.refused(x, "under()", x.under(), 1);
        Check.refused(x, "bit(0, 0)", x.bit(0, 0), 1);
        Check.refused(x, "person(0, 0)", x.person(0, 0), 1);
    }

    private static void feeding() {
        MirrorTube x = new MirrorTube();
        for (int k = 1; k <= 40; k++) {
            Check.due("feed " + k, x.feed(0x20202020, 0x20202020, 0x20202020, 0x20202020, 0x20202020), 20 * k);
        }
        x.undo();
        Check.due("feed beyond 800", x.feed(1, 2, 3, 4, 5), -1);
        Check.due("size(10)", x.size(10), 800);
        Check.due("trouble() is not feed's", x.trouble(), 6);
        Check.refused(x, "tube(801)", x.tube(801), 2);
        Check.refused(x, "tube(800)", x.tube(800), 4);
        Check.due("where()", x.where(), 800);
        Check.due("size(10)", x.size(10), 0);
        Check.due("feed again", x.feed(-1, -1, -1, -1, -1), 20);
        Check.refused(x, "tube(20)", x.tube(20), 4);
        Check.due("where()", x.where(), 0);
        String longest = HEAD + " ".repeat(800 - HEAD.length() - 10) + ";holiday 3";
        Check.due("tube() of 800 bytes", Check.tell(x, longest), 1);
        Check.due("size(5)", x.size(5), 1);
    }

    private static void telling() {
        MirrorTube x = Check.told(HEAD + ";person p in 2 at 3;holiday 7");
        x.go(0, true);
        x.turn(1);
        x.waits(3);
        x.image();
        Check.feed(x, "tube rolls 7");
        Check.refused(x, "tube(-1)", x.tube(-1), 2);
        Check.refused(x, "tube(21)", x.tube(21), 2);
        Check.due("size(10): THE TAPE stays", x.size(10), 20);
        Check.refused(x, "tube(12)", x.tube(12), 4);
        Check.due("size(10): THE TAPE is empty", x.size(10), 0);
        Check.due("size(0): the TUBE stays", x.size(0), 5);
        Check.due("bit(0, 2)", x.bit(0, 2), 2);
        Check.due("person(0, 1)", x.person(0, 1), 4);
        Check.due("size(7)", x.size(7), 3);
        Check.due("size(8)", x.size(8), 3);
        Check.due("size(9)", x.size(9), 1);
        Check.answered(x, "tube()", Check.tell(x, "tube rolls 9;bit b heavy x at 11;bit c glued x at 3"), 2);
        int[] sizes = {9, 2, 0, 0, 0, 0, 0, 0, 0, 0, 0};
        for (int what = 0; what <= 10; what++) {
            Check.due("size(" + what + ") of the new TUBE", x.size(what), sizes[what]);
        }
        Check.due("undo()", x.undo(), false);
        Check.due("back(0)", x.back(0), false);
        Check.feed(x, HEAD + ";bit");
        Check.answered(x, "tube() of a part of THE TAPE", x.tube(HEAD.length()), 1);
    }

    private static void tokens() {
        good("  tube  rolls 005 ;  bit a light red at 011  ", 1);
        good("tube rolls 0;bit abcdefgh light abcdefgh at 0", 1);
        good("tube rolls100;bit at light in at11", 1);
        faulty("tube rolls 5;bit a light redat0", 1, 30);
        good("tube rolls 1;bit rolls glued tube at 1;bit light plain holiday at 2;want rolls at 3", 2);
        faulty("tube rolls 0;bit abcdefghi light red at 0", 1, 17);
        faulty("tube rolls 0;bit a light abcdefghi at 0", 1, 25);
        faulty("tube rolls 0005;bit a light red at 0", 1, 11);
        faulty("tube rolls 5;bit A light red at 0", 1, 17);
        faulty("tube rolls 5\n;bit a light red at 0", 1, 12);
        faulty("tube rolls 5,bit a light red at 0", 1, 12);
        faulty("tube rolls -5;bit a light red at 0", 1, 11);
        faulty("\u00e9" + HEAD, 1, 0);
        faulty(HEAD + "\u0000", 1, HEAD.length());
    }

    private static void form() {
        faulty("", 1, 0);
        faulty("   ", 1, 3);
        faulty("foo", 1, 0);
        faulty(";", 1, 0);
        faulty("5", 1, 0);
        faulty("tube", 1, 4);
        faulty("tube 5", 1, 5);
        faulty("tube rolls", 1, 10);
        faulty("tube rolls x", 1, 11);
        faulty("tube rolls 5 6", 1, 13);
        faulty("tube rolls 5;", 1, 13);
        faulty("tube rolls 5;;", 1, 13);
        faulty("tube rolls 5;bit", 1, 16);
        faulty("tube rolls 5;bit a odd", 1, 19);
        faulty("tube rolls 5;bit a light 5", 1, 25);
        faulty("tube rolls 5;bit a light red in 5", 1, 29);
        faulty("tube rolls 5;bit a light red at a", 1, 32);
        faulty(HEAD + ";", 1, 34);
        faulty(HEAD + ";want a in 5", 1, 41);
        faulty(HEAD + ";met red 5", 1, 38);
        faulty(HEAD + ";met 5;", 1, 39);
        faulty(HEAD + ";holiday x", 1, 42);
        faulty(HEAD + ";person p at 5", 1, 43);
        faulty(HEAD + ";person p in 5", 1, 47);
        faulty(HEAD + " bit", 1, 34);
        for (String word : new String[] {"tube", "bit", "want", "after", "met", "holiday", "person"}) {
            faulty("tube rolls 5;bit " + word + " light red at 0", 1, 17);
            faulty(HEAD + ";want " + word + " at 0", 1, 39);
            faulty(HEAD + ";person " + word + " in 0 at 0", 1, 41);
        }
    }

    private static void names() {
        faulty(HEAD + ";want b at 0", 2, 39);
        faulty(HEAD + ";after red at 0", 2, 40);
        faulty(HEAD + ";person p in 0 at 0;want p at 0", 2, 58);
        faulty(HEAD + ";person p in 0 at 0;after p at 0", 2, 59);
        faulty("tube rolls 5;want a at 0;bit a light red at 0", 2, 18);
    }

    private static void again() {
        faulty(HEAD + ";bit a", 3, 38);
        faulty(HEAD + ";person a", 3, 41);
        faulty(HEAD + ";person p in 0 at 0;person p", 3, 60);
        faulty(HEAD + ";person p in 0 at 0;bit p", 3, 57);
        faulty(HEAD + ";want a at 1;want a", 3, 51);
        faulty(HEAD + ";after a at 1;after a", 3, 53);
        good(HEAD + ";want a at 1;after a at 1", 1);
        faulty(HEAD + ";met 1 red;met 01", 3, 48);
        faulty(HEAD + ";holiday 5;holiday 5", 3, 52);
        faulty(HEAD + ";tube", 3, 34);
        faulty("tube rolls 5;tube rolls 6", 3, 13);
    }

    private static void bounds() {
        faulty("tube rolls 101;", 4, 11);
        good("tube rolls 100;bit a light red at 11", 1);
        faulty("tube rolls 5;bit a light red at 12", 4, 32);
        faulty(HEAD + ";want a at 12", 4, 44);
        faulty(HEAD + ";after a at 999", 4, 45);
        faulty(HEAD + ";met 12 red", 4, 38);
        faulty(HEAD + ";holiday 100", 4, 42);
        good(HEAD + ";holiday 99;holiday 0;met 11 red;want a at 11;after a at 11;person p in 5 at 11", 1);
        faulty(HEAD + ";person p in 6 at 0", 4, 46);
        faulty(HEAD + ";person p in 5 at 12", 4, 51);
    }

    private static String repeated(String head, String line, int from, int to, String end) {
        StringBuilder text = new StringBuilder(head);
        for (int k = from; k <= to; k++) {
            text.append(';').append(line.replace("#", Integer.toString(k)).replace("@", "" + (char) ('a' + k)));
        }
        return text + end;
    }

    private static void many() {
        String bits = repeated("tube rolls 5", "bit @ light red at #", 0, 5, "");
        good(bits, 6);
        faulty(bits + ";bit a", 5, bits.length() + 1);
        String mets = repeated(HEAD, "met # red", 0, 5, "");
        good(mets, 1);
        faulty(mets + ";met 0", 5, mets.length() + 1);
        String days = repeated(HEAD, "holiday #", 0, 7, "");
        good(days, 1);
        faulty(days + "; holiday x", 5, days.length() + 2);
        String people = repeated(HEAD, "person @ in 0 at #", 1, 4, "");
        good(people, 1);
        faulty(people + ";person z in 0 at 0", 5, people.length() + 1);
        String wants = repeated(repeated(bits, "want @ at 0", 0, 5, ""), "after @ at 0", 0, 5, "");
        good(wants, 6);
        faulty(wants + ";want a at 1", 3, wants.length() + 6);
    }

    private static void lacks() {
        faulty("bit a", 6, 0);
        faulty("  want a at 1;tube rolls 5", 6, 2);
        faulty("after", 6, 0);
        faulty("met 99999", 6, 0);
        faulty("holiday 1", 6, 0);
        faulty("person", 6, 0);
        faulty("tube rolls 5", 6, 12);
        faulty("tube rolls 5  ", 6, 14);
        faulty("tube rolls 5;holiday 3", 6, 22);
    }

    private static void whereAndFault() {
        MirrorTube x = new MirrorTube();
        Check.tell(x, "tube rolls 5;bit a odd");
        Check.due("where()", x.where(), 19);
        x.feed(0, 0, 0, 0, 0);
        x.size(0);
        Check.due("where() behind calls that are never refused", x.where(), 19);
        x.tube(99);
        Check.due("where() behind a refusal by 2", x.where(), -1);
        Check.due("fault() behind a refusal by 2", x.fault(), 1);
        x.tube(20);
        Check.due("where() behind another fault", x.where(), 0);
        x.under();
        Check.due("where() behind another refusal", x.where(), -1);
        Check.due("fault()", x.fault(), 1);
        Check.tell(x, HEAD);
        Check.due("fault() without one", x.fault(), 0);
        Check.due("where() without one", x.where(), -1);
    }
}
