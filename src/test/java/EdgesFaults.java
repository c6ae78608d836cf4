/** Boundary cases of the terms of a text (Terms, I), which promises 3 to 5 answer by. */
final class EdgesFaults {
    private static final String HEAD = "tube rolls 5;bit a light red at 0";
    private static final String[] KEPT = {"tube", "bit", "want", "after", "met", "holiday", "person"};

    private EdgesFaults() {
    }

    static void run() {
        blanks();
        everyByte();
        words();
        wholes();
        semicolons();
        rolls();
        cells();
        sixBits();
        onceForEachBit();
        mets();
        holidays();
        people();
        keptWords();
        toldAheadOfUse();
        formAtTheEnd();
        formOfTokens();
        untold();
        toldAgain();
        secondTube();
        outOfBounds();
        many();
        lacksTube();
        lacksBit();
        firstFromTheLeft();
        leastNumber();
    }

    private static void faulty(String text, int fault, int place) {
        MirrorTube x = new MirrorTube();
        Check.refused(x, "tube() of '" + text + "'", Check.tell(x, text), 4);
        Check.due("fault() of '" + text + "'", x.fault(), fault);
        // refused() asked trouble() alone, so the latest call that may be refused is still tube().
        Check.due("where() of '" + text + "'", x.where(), place);
    }

    private static MirrorTube good(String text) {
        MirrorTube x = new MirrorTube();
        Check.due("tube() of '" + text + "'", Check.tell(x, text) > 0, true);
        Check.due("fault() of '" + text + "'", x.fault(), 0);
        Check.due("where() of '" + text + "'", x.where(), -1);
        return x;
    }

    // ---- TOKENS

    private static void blanks() {
        Check.promise(3, "blanks, 32, part TOKENS and mean nothing else");
        good("tube rolls5;bit a light red at0");
        good("   tube   rolls   5   ;   bit   a   light   red   at   0   ");
        good("tube rolls 5 ;bit a light red at 0");
        good("tube rolls 5; bit a light red at 0");
        faulty("tube rolls 1 0;bit a light red at 0", 1, 13);
        faulty("tube rolls 5;bit a li ght red at 0", 1, 19);
        faulty("tube rolls 5;bita light red at 0", 1, 13);
        faulty("tuberolls 5;bit a light red at 0", 1, 0);
        faulty(" ", 1, 1);
        faulty(HEAD + ";  ", 1, 36);
    }

    private static void everyByte() {
        Check.promise(3, "1 FORM: the first byte that begins no TOKEN");
        for (int sign = 0; sign < 256; sign++) {
            String text = HEAD + (char) sign;
            if (sign == ' ' || sign >= '0' && sign <= '9') {
                good(text);
            } else if (sign == ';') {
                faulty(text, 1, 34);
            } else {
                faulty(text, 1, 33);
            }
            if (sign != ' ') {
                faulty((char) sign + " " + HEAD, 1, 0);
            }
        }
    }

    private static void words() {
        Check.promise(3, "WORDS of 1 to 8 small letters that stand together");
        good("tube rolls 5;bit a light b at 0");
        good("tube rolls 5;bit abcdefgh light zyxwvuts at 0;want abcdefgh at 1");
        faulty("tube rolls 5;bit abcdefghi light red at 0", 1, 17);
        faulty("tube rolls 5;bit a light abcdefghi at 0", 1, 25);
        faulty("tube rolls 5;bit a" + "b".repeat(300) + " light red at 0", 1, 17);
        faulty(HEAD + ";met 0 abcdefghi", 1, 40);
        // Names are told apart by all their letters.
        good("tube rolls 5;bit aaaaaaaa light red at 0;bit aaaaaaab light red at 0;bit baaaaaaa light red at 0");
        faulty("tube rolls 5;bit aaaaaaaa light red at 0;bit aaaaaaaa", 3, 45);
        faulty("tube rolls 5;bit aaaaaaaa light red at 0;want aaaaaaa at 1", 2, 46);
    }

    private static void wholes() {
        Check.promise(3, "WHOLES of 1 to 3 digits that do");
        good("tube rolls 005;bit a light red at 011");
        Check.due("size(0) of 007", good("tube rolls 007;bit a light red at 0").size(0), 7);
        faulty("tube rolls 0005;bit a light red at 0", 1, 11);
        faulty("tube rolls 5;bit a light red at 0000", 1, 32);
        faulty(HEAD + ";holiday 0001", 1, 42);
        // So many digits would wrap round to a number that is in bounds.
        faulty("tube rolls 4294967297;bit a light red at 0", 1, 11);
        faulty("tube rolls " + "0".repeat(300) + "5;bit a light red at 0", 1, 11);
    }

    private static void semicolons() {
        Check.promise(3, "single ones of ;");
        faulty("tube rolls 5;;bit a light red at 0", 1, 13);
        faulty(";" + HEAD, 1, 0);
        faulty(HEAD + ";", 1, 34);
        faulty("tube;rolls 5;bit a light red at 0", 1, 4);
    }

    // ---- LINES

    private static void rolls() {
        Check.promise(3, "tube rolls WHOLE (0 .. 100 in a hundred)");
        Check.due("size(0)", good("tube rolls 0;bit a light red at 0").size(0), 0);
        Check.due("size(0)", good("tube rolls 100;bit a light red at 0").size(0), 100);
        faulty("tube rolls 101;bit a light red at 0", 4, 11);
        faulty("tube rolls 999;bit a light red at 0", 4, 11);
    }

    private static void cells() {
        Check.promise(3, "a cell, 0 .. 11");
        for (int cell = 0; cell <= 11; cell++) {
            MirrorTube x = good("tube rolls 5;bit a light red at " + cell + ";want a at " + cell + ";after a at " + cell
                    + ";met " + cell + " red;person p in 0 at " + cell);
            Check.due("bit(0, 1)", x.bit(0, 1), cell);
            Check.due("bit(0, 5)", x.bit(0, 5), cell);
            Check.due("bit(0, 6)", x.bit(0, 6), cell);
            Check.due("person(0, 1)", x.person(0, 1), cell);
        }
        for (int cell : new int[] {12, 100, 999}) {
            faulty("tube rolls 5;bit a light red at " + cell, 4, 32);
            faulty(HEAD + ";want a at " + cell, 4, 44);
            faulty(HEAD + ";after a at " + cell, 4, 45);
            faulty(HEAD + ";met " + cell + " red", 4, 38);
            faulty(HEAD + ";person p in 0 at " + cell, 4, 51);
        }
    }

    private static String bits(int count) {
        StringBuilder text = new StringBuilder("tube rolls 5");
        for (int b = 0; b < count; b++) {
            text.append(";bit ").append((char) ('a' + b)).append(" light red at ").append(b);
        }
        return text.toString();
    }

    private static void sixBits() {
        Check.promise(3, "bit: up to 6");
        Check.due("size(1)", good(bits(6)).size(1), 6);
        faulty(bits(7), 5, bits(6).length() + 1);
    }

    private static String each(String head, String line, int from, int count) {
        StringBuilder text = new StringBuilder(head);
        for (int k = from; k < from + count; k++) {
            text.append(';').append(line.replace("#", "" + k).replace("@", "" + (char) ('a' + k)));
        }
        return text.toString();
    }

    private static void onceForEachBit() {
        Check.promise(3, "once of each for each bit");
        String all = each(each(bits(6), "want @ at #", 0, 6), "after @ at #", 0, 6);
        MirrorTube x = good(all);
        Check.due("size(2)", x.size(2), 6);
        Check.due("size(3)", x.size(3), 6);
        faulty(all + ";want a at 0", 3, all.length() + 6);
        faulty(all + ";want f at 0", 3, all.length() + 6);
        faulty(all + ";after a at 0", 3, all.length() + 7);
        faulty(all + ";after f at 0", 3, all.length() + 7);
        // A bit wanted in cell 0 is wanted, too.
        faulty(HEAD + ";want a at 0;want a at 0", 3, 51);
        faulty(HEAD + ";after a at 0;after a at 0", 3, 53);
    }

    private static void mets() {
        Check.promise(3, "met: each once; up to 6");
        Check.due("size(4)", good(each(HEAD, "met # red", 6, 6)).size(4), 6);
        String six = each(HEAD, "met # red", 0, 6);
        Check.due("size(4)", good(six).size(4), 6);
        faulty(six + ";met 6 red", 5, six.length() + 1);
        faulty(HEAD + ";met 0 red;met 0 blue", 3, 48);
        faulty(HEAD + ";met 1 red;met 2 red;met 01 red", 3, 58);
    }

    private static void holidays() {
        Check.promise(3, "holiday: a day, 0 .. 99, each once; up to 8");
        good(HEAD + ";holiday 0");
        good(HEAD + ";holiday 99");
        faulty(HEAD + ";holiday 100", 4, 42);
        faulty(HEAD + ";holiday 0;holiday 0", 3, 52);
        faulty(HEAD + ";holiday 99;holiday 98;holiday 099", 3, 64);
        String eight = each(HEAD, "holiday #", 92, 8);
        Check.due("size(5)", good(eight).size(5), 8);
        faulty(eight + ";holiday 1", 5, eight.length() + 1);
        faulty(eight + ";holiday 92", 5, eight.length() + 1);
    }

    private static void people() {
        Check.promise(3, "person: a country, 0 .. 5; a cell; up to 4");
        for (int country = 0; country <= 5; country++) {
            Check.due("person(0, 0)", good(HEAD + ";person p in " + country + " at 0").person(0, 0), country);
        }
        faulty(HEAD + ";person p in 6 at 0", 4, 46);
        faulty(HEAD + ";person p in 999 at 0", 4, 46);
        String four = each(HEAD, "person @ in 0 at 0", 1, 4);
        Check.due("size(6)", good(four).size(6), 4);
        faulty(four + ";person z in 0 at 0", 5, four.length() + 1);
    }

    private static void keptWords() {
        Check.promise(3, "NAMES are WORDS but tube, bit, want, after, met, holiday, person");
        for (String word : KEPT) {
            faulty("tube rolls 5;bit " + word + " light red at 0", 1, 17);
            faulty(HEAD + ";person " + word + " in 0 at 0", 1, 41);
            faulty(HEAD + ";want " + word + " at 0", 1, 39);
            faulty(HEAD + ";after " + word + " at 0", 1, 40);
            good("tube rolls 5;bit a light " + word + " at 0;met 0 " + word);
            good("tube rolls 5;bit " + word + "s light red at 0");
        }
        for (String word : new String[] {"rolls", "at", "in", "light", "plain", "heavy", "glued"}) {
            good("tube rolls 5;bit " + word + " light " + word + " at 0;want " + word + " at 1;after " + word
                    + " at 1");
        }
    }

    private static void toldAheadOfUse() {
        Check.promise(3, "each told once, ahead of its use");
        faulty("tube rolls 5;want a at 0;bit a light red at 0", 2, 18);
        faulty("tube rolls 5;after a at 0;bit a light red at 0", 2, 19);
        good(HEAD + ";want a at 0;bit b light red at 0;want b at 0");
        // A COLOUR is no NAME: it may be told as often as one likes, and be a bit's name.
        good("tube rolls 5;bit a light a at 0;bit b light a at 0;met 0 a;met 1 a;met 2 b");
        faulty("tube rolls 5;bit a light red at 0;want red at 0", 2, 39);
    }

    // ---- FAULTS

    private static void formAtTheEnd() {
        Check.promise(5, "(the end: its place)");
        cutBehindEach("", "tube", "rolls", "5");
        cutBehindEach("tube rolls 5;", "bit", "a", "light", "red", "at", "0");
        cutBehindEach(HEAD + ";", "want", "a", "at", "0");
        cutBehindEach(HEAD + ";", "after", "a", "at", "0");
        cutBehindEach(HEAD + ";", "met", "0", "red");
        cutBehindEach(HEAD + ";", "holiday", "0");
        cutBehindEach(HEAD + ";", "person", "p", "in", "0", "at", "0");
    }

    /** No LINE is whole before its last TOKEN, so the end is where no TUBE goes on. */
    private static void cutBehindEach(String head, String... tokens) {
        StringBuilder text = new StringBuilder(head);
        for (String token : tokens) {
            faulty(text.toString(), 1, text.length());
            faulty(text + "  ", 1, text.length() + 2);
            text.append(' ').append(token);
        }
    }

    private static void formOfTokens() {
        Check.promise(5, "TOKEN with which no TUBE goes on");
        faulty("rolls 5", 1, 0);
        faulty("5 tube", 1, 0);
        faulty("tube roll 5", 1, 5);
        faulty("tube rolls five", 1, 11);
        faulty("tube rolls 5 bit a light red at 0", 1, 13);
        faulty("tube rolls 5;bit 5 light red at 0", 1, 17);
        faulty("tube rolls 5;bit a lights red at 0", 1, 19);
        faulty("tube rolls 5;bit a light red 0", 1, 29);
        faulty("tube rolls 5;bit a light red in 0", 1, 29);
        faulty("tube rolls 5;bit a light red at a", 1, 32);
        faulty(HEAD + " 1", 1, 34);
        faulty(HEAD + ";want 0 at 1", 1, 39);
        faulty(HEAD + ";want a 1", 1, 41);
        faulty(HEAD + ";after a in 1", 1, 42);
        faulty(HEAD + ";met red 0", 1, 38);
        faulty(HEAD + ";met 0 1", 1, 40);
        faulty(HEAD + ";met 0 red at", 1, 44);
        faulty(HEAD + ";holiday one", 1, 42);
        faulty(HEAD + ";holiday 1 2", 1, 44);
        faulty(HEAD + ";person 1 in 0 at 0", 1, 41);
        faulty(HEAD + ";person p at 0", 1, 43);
        faulty(HEAD + ";person p in p at 0", 1, 46);
        faulty(HEAD + ";person p in 0 in 0", 1, 48);
    }

    private static void untold() {
        Check.promise(5, "2 a NAME that isn't told, or is of another sort than must stand there; at it");
        faulty(HEAD + ";want b at 0", 2, 39);
        faulty(HEAD + ";after b at 0", 2, 40);
        faulty(HEAD + ";person p in 0 at 0;want p at 0", 2, 58);
        faulty(HEAD + ";person p in 0 at 0;after p at 0", 2, 59);
        faulty(HEAD + ";want b", 2, 39);
    }

    private static void toldAgain() {
        Check.promise(5, "3 a NAME told again; at it; a BIT wanted already, or told of after already; at it; "
                + "a cell met, a holiday told already; at its WHOLE");
        faulty(HEAD + ";bit a", 3, 38);
        faulty(HEAD + ";person a", 3, 41);
        faulty(HEAD + ";person p in 0 at 0;person p", 3, 60);
        faulty(HEAD + ";person p in 0 at 0;bit p", 3, 57);
        faulty(HEAD + ";want a at 1;want a", 3, 51);
        faulty(HEAD + ";after a at 1;after a", 3, 53);
        faulty(HEAD + ";met 1 red;met 1", 3, 48);
        faulty(HEAD + ";holiday 5;holiday 5", 3, 52);
        good(HEAD + ";want a at 1;after a at 1;met 1 red;holiday 1");
        // What the text before told is forgotten.
        MirrorTube x = Check.told(HEAD + ";want a at 1;after a at 1;met 1 red;holiday 5;person p in 0 at 0");
        for (int again = 0; again < 3; again++) {
            Check.answered(x, "tube() of the same text", Check.tell(x, HEAD
                    + ";want a at 1;after a at 1;met 1 red;holiday 5;person p in 0 at 0"), 1);
        }
    }

    private static void secondTube() {
        Check.promise(5, "a second tube: at that WORD");
        faulty("tube rolls 5;tube rolls 5", 3, 13);
        faulty(HEAD + "; tube", 3, 35);
        faulty(HEAD + ";tube 999", 3, 34);
    }

    private static void outOfBounds() {
        Check.promise(5, "4 a WHOLE out of bounds; at it");
        faulty("tube  rolls  101", 4, 13);
        faulty("tube rolls 5;bit a light red at 12", 4, 32);
        faulty(HEAD + ";met 12", 4, 38);
        faulty(HEAD + ";holiday 100", 4, 42);
        faulty(HEAD + ";person p in 6", 4, 46);
    }

    private static void many() {
        Check.promise(5, "5 MANY: a LINE more of its sort than there is room for, at its first WORD");
        faulty(bits(6) + "; bit", 5, bits(6).length() + 2);
        faulty(bits(6) + ";bit a", 5, bits(6).length() + 1);
        String mets = each(HEAD, "met # red", 0, 6);
        faulty(mets + ";met 12", 5, mets.length() + 1);
        String days = each(HEAD, "holiday #", 0, 8);
        faulty(days + ";holiday 0", 5, days.length() + 1);
        String people = each(HEAD, "person @ in 0 at 0", 1, 4);
        faulty(people + ";person a", 5, people.length() + 1);
        good(each(each(each(each(each(bits(6), "want @ at #", 0, 6), "after @ at #", 0, 6),
                "met # red", 0, 6), "holiday #", 0, 8), "person @ in 0 at 0", 6, 4));
    }

    private static void lacksTube() {
        Check.promise(5, "6 LACKS: any LINE ahead of the tube; at its WORD");
        for (String word : KEPT) {
            if (!word.equals("tube")) {
                faulty(word, 6, 0);
                faulty("  " + word + " 5;" + HEAD, 6, 2);
            }
        }
        faulty("bit a light red at 0;tube rolls 5", 6, 0);
    }

    private static void lacksBit() {
        Check.promise(5, "6 LACKS: at the end: no bit");
        faulty("tube rolls 5", 6, 12);
        faulty("tube rolls 5   ", 6, 15);
        faulty("tube rolls 5;holiday 1;met 1 red;person p in 0 at 0", 6, 51);
    }

    private static void firstFromTheLeft() {
        Check.promise(4, "FAULTS, the first that is met from the left");
        faulty("tube rolls 101;bit a light red at 12;!", 4, 11);
        faulty(HEAD + ";want b at 12", 2, 39);
        faulty(HEAD + ";want a at 12;want b", 4, 44);
        faulty(HEAD + ";bit a light red at 0;tube", 3, 38);
        faulty("tube rolls 5 !;tube", 1, 13);
        faulty("tube rolls 5;tube !", 3, 13);
        faulty("want b at 12", 6, 0);
        faulty(HEAD + ";met 12 5", 4, 38);
    }

    private static void leastNumber() {
        Check.promise(4, "of one place the least number");
        // At the end: no LINE (1), and no bit (6).
        faulty("", 1, 0);
        faulty("tube rolls 5;", 1, 13);
        faulty("tube rolls", 1, 10);
        // No LINE begins so (1), and it is ahead of the tube (6).
        faulty("bits a", 1, 0);
        // No NAME (1), so none that is told (2).
        faulty(HEAD + ";want met", 1, 39);
        // A tube again (3), and more tubes than there is room for (5).
        faulty(HEAD + ";tube", 3, 34);
        // A person's NAME (2), however often it is wanted (3).
        faulty(HEAD + ";person p in 0 at 0;want p at 0;want p at 0", 2, 58);
    }
}
