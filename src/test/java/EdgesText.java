import java.util.NoSuchElementException;

/** Boundary cases of promises 1 to 5: a new object, THE TAPE, and where a text becomes a TUBE. */
final class EdgesText {
    private static final String HEAD = "tube rolls 5;bit a light red at 0";
    private static final int BLANKS = 0x20202020;

    private EdgesText() {
    }

    static void run() {
        newObject();
        objectsApart();
        feedHighestFirst();
        feedCount();
        feedTooMuch();
        feedRefused();
        tubeFirstBytes();
        tubeEmptiesTape();
        tubeOfNoBytes();
        tubeOfAllBytes();
        tubeBeginsAnew();
        tubeCounts();
        tubeWrongNumber();
        tubeWithFault();
        faultOfLatest();
        faultAndWrongNumber();
        whereOfFault();
        whereElse();
        whereAndOtherCalls();
    }

    private static void newObject() {
        Check.promise(1, "No TUBE");
        MirrorTube x = new MirrorTube();
        Check.due("trouble()", x.trouble(), 0);
        Check.due("fault()", x.fault(), 0);
        Check.due("where()", x.where(), -1);
        for (int what = 0; what <= 10; what++) {
            Check.due("size(" + what + ")", x.size(what), 0);
        }
        boolean thrown = false;
        try {
            x.led(0);
        } catch (NoSuchElementException e) {
            thrown = true;
        }
        Check.due("led(0) throws", thrown, true);
        Check.refused(x, "mostTops()", x.mostTops(), 1);
        Check.refused(x, "image()", x.image(), 1);
        Check.due("feed()", x.feed(BLANKS, BLANKS, BLANKS, BLANKS, BLANKS), 20);
    }

    private static void objectsApart() {
        Check.promise(1, "No TUBE");
        MirrorTube told = Edge.used(Edge.FULL);
        MirrorTube x = new MirrorTube();
        Check.due("size(1) of a new object beside a told one", x.size(1), 0);
        Check.due("size(10) of a new object beside a told one", x.size(10), 0);
        Check.tell(x, HEAD);
        Check.due("size(1) of the other", told.size(1), 6);
        Check.due("size(10) of the other", told.size(10), 20);
    }

    // ---- feed

    private static void feedHighestFirst() {
        Check.promise(2, "Twenty bytes come behind THE TAPE, of each number the highest first");
        for (int odd : new int[] {'!', 0, 127, 128, 255}) {
            for (int place = 0; place < 20; place++) {
                int[] numbers = {BLANKS, BLANKS, BLANKS, BLANKS, BLANKS};
                int shift = 24 - 8 * (place % 4);
                numbers[place / 4] = BLANKS & ~(255 << shift) | odd << shift;
                MirrorTube x = new MirrorTube();
                x.feed(BLANKS, BLANKS, BLANKS, BLANKS, BLANKS);
                x.feed(numbers[0], numbers[1], numbers[2], numbers[3], numbers[4]);
                x.tube(40);
                Check.due("where(), byte " + odd + " at " + place, x.where(), 20 + place);
            }
        }
    }

    private static void feedCount() {
        Check.promise(2, "how many it has");
        MirrorTube x = new MirrorTube();
        for (int feeds = 1; feeds <= 40; feeds++) {
            Check.due("feed " + feeds, x.feed(-1, 0, Integer.MIN_VALUE, Integer.MAX_VALUE, 1), 20 * feeds);
            Check.due("size(10)", x.size(10), 20 * feeds);
        }
        x.tube(0);
        Check.due("the first feed of an empty TAPE", x.feed(0, 0, 0, 0, 0), 20);
    }

    private static void feedTooMuch() {
        Check.promise(2, "NONE, and none comes, if there would be more than 800");
        MirrorTube x = new MirrorTube();
        String last = ";holiday 7";
        Check.due("feed of 780 and 20 bytes", Check.feed(x, HEAD + " ".repeat(800 - 43) + last), 800);
        for (int more = 0; more < 3; more++) {
            Check.due("feed beyond 800", x.feed(-1, -1, -1, -1, -1), -1);
            Check.due("size(10)", x.size(10), 800);
        }
        Check.answered(x, "tube(800): none came", x.tube(800), 1);
        Check.due("size(5): up to the last byte", x.size(5), 1);
    }

    private static void feedRefused() {
        Check.promise(2, "NONE, and none comes: no number is told");
        MirrorTube x = new MirrorTube();
        Check.tell(x, "tube rolls 101");
        Check.due("feed()", Check.feed(x, " ".repeat(800)), 800);
        Check.due("trouble() behind feed()", x.trouble(), 4);
        Check.due("feed() beyond 800", x.feed(0, 0, 0, 0, 0), -1);
        Check.due("trouble() behind a refused feed()", x.trouble(), 4);
        Check.due("where() behind a refused feed()", x.where(), 11);
        Check.due("fault() behind a refused feed()", x.fault(), 4);
    }

    // ---- tube

    private static void tubeFirstBytes() {
        Check.promise(3, "The first n bytes of THE TAPE");
        String text = "tube rolls 5;bit a light red at 11";
        int[] due = {-1, 1, 1};
        int[] cells = {-1, 1, 11};
        for (int k = 0; k < 3; k++) {
            MirrorTube x = new MirrorTube();
            Check.feed(x, text + ";bit b plain");
            Check.due("tube(" + (32 + k) + ")", x.tube(32 + k), due[k]);
            Check.due("where()", x.where(), k == 0 ? 32 : -1);
            Check.due("bit(0, 1)", x.bit(0, 1), cells[k]);
        }
    }

    private static void tubeEmptiesTape() {
        Check.promise(3, "(it is empty then)");
        MirrorTube x = new MirrorTube();
        Check.feed(x, HEAD + "!");
        x.tube(HEAD.length());
        Check.due("size(10) behind a TUBE", x.size(10), 0);
        Check.refused(x, "tube(1)", x.tube(1), 2);
        Check.feed(x, "tube tube");
        x.tube(9);
        Check.due("size(10) behind a FAULT", x.size(10), 0);
        Check.refused(x, "tube(1)", x.tube(1), 2);
        Check.answered(x, "tube() of what is fed then", Check.tell(x, HEAD), 1);
    }

    private static void tubeOfNoBytes() {
        Check.promise(3, "The first n bytes, none at all");
        MirrorTube x = new MirrorTube();
        Check.refused(x, "tube(0) of an empty TAPE", x.tube(0), 4);
        Check.due("fault()", x.fault(), 1);
        x.tube(0);
        Check.due("where()", x.where(), 0);
        Check.feed(x, HEAD);
        Check.refused(x, "tube(0) of 40 bytes", x.tube(0), 4);
        Check.due("size(10)", x.size(10), 0);
        Check.due("fault()", x.fault(), 1);
    }

    private static void tubeOfAllBytes() {
        Check.promise(3, "The first n bytes, all 800");
        MirrorTube x = new MirrorTube();
        Check.feed(x, HEAD + " ".repeat(800 - HEAD.length()));
        Check.answered(x, "tube(800)", x.tube(800), 1);
        Check.feed(x, " ".repeat(799) + "!");
        Check.refused(x, "tube(800)", x.tube(800), 4);
        x.tube(0);
        Check.feed(x, " ".repeat(799) + "!");
        x.tube(800);
        Check.due("where(): the last byte", x.where(), 799);
        Check.feed(x, " ".repeat(800));
        x.tube(800);
        Check.due("where(): the end", x.where(), 800);
    }

    private static void tubeBeginsAnew() {
        Check.promise(3, "(day 0; nothing to undo, no IMAGES)");
        MirrorTube x = Edge.used(Edge.FULL);
        x.tube(0);
        Check.answered(x, "tube()", Check.tell(x, HEAD + ";person p in 5 at 3"), 1);
        Check.due("size(7): day 0", x.size(7), 0);
        Check.due("size(8): nothing to undo", x.size(8), 0);
        Check.due("undo()", x.undo(), false);
        Check.due("size(9): no IMAGES", x.size(9), 0);
        Check.due("back(0)", x.back(0), false);
        Check.due("person(0, 2): no steps", x.person(0, 2), 0);
        Check.due("person(0, 1)", x.person(0, 1), 3);
        int[] sizes = {5, 1, 0, 0, 0, 0, 1, 0, 0, 0, 0};
        for (int what = 0; what <= 10; what++) {
            Check.due("size(" + what + "): nothing is left of the other TUBE", x.size(what), sizes[what]);
        }
        Check.due("bit(0, 5)", x.bit(0, 5), -2);
        Check.due("bit(0, 6)", x.bit(0, 6), -2);
        Check.due("image(): the first number again", x.image(), 0);
    }

    private static void tubeCounts() {
        Check.promise(3, "how many bits");
        StringBuilder text = new StringBuilder("tube rolls 0");
        for (int bits = 1; bits <= 6; bits++) {
            text.append(";bit ").append((char) ('a' + bits)).append(" light x at 0");
            MirrorTube x = new MirrorTube();
            Check.answered(x, "tube() of " + bits, Check.tell(x, text.toString()), bits);
        }
    }

    private static void tubeWrongNumber() {
        Check.promise(3, "NONE: 2 (THE TAPE stays)");
        for (int wrong : new int[] {-1, 41, Integer.MIN_VALUE, Integer.MAX_VALUE}) {
            MirrorTube x = Edge.used(Edge.FULL);
            x.tube(0);
            Check.feed(x, HEAD);
            String before = Edge.picture(x);
            Check.refused(x, "tube(" + wrong + ")", x.tube(wrong), 2);
            Check.due("size(10)", x.size(10), 40);
            Check.due("tube(" + wrong + ") leaves all as it is", Edge.picture(x).equals(before), true);
            Check.due("fault() of the tube(0) before", x.fault(), 1);
            Check.answered(x, "tube(33) of what stayed", x.tube(33), 1);
        }
        MirrorTube y = new MirrorTube();
        Check.refused(y, "tube(1) of an empty TAPE", y.tube(1), 2);
    }

    private static void tubeWithFault() {
        Check.promise(3, "NONE: 4 (the TUBE stays)");
        String[] faulty = {"", "tube rolls 7;bit z heavy z at 9;", "tube rolls 7", "bit z heavy z at 9",
            "tube rolls 7;bit z heavy z at 9;person z in 1 at 1",
            "tube rolls 7;bit z heavy z at 9;want z at 2;after z at 3;met 9 z;holiday 1;person y in 3 at 3;holiday 1"};
        for (String text : faulty) {
            MirrorTube x = Check.told("tube rolls 9;bit z glued z at 1");
            Check.tell(x, Edge.FULL);
            x.turn(3);
            x.go(1, false);
            x.image();
            x.waits(1);
            String before = Edge.picture(x);
            Check.refused(x, "tube() of '" + text + "'", Check.tell(x, text), 4);
            Check.due("the TUBE stays behind '" + text + "'", Edge.picture(x).equals(before), true);
            Check.due("undo() still can", x.undo(), true);
            Check.due("back(0) still can", x.back(0), true);
        }
    }

    // ---- fault and where

    private static void faultOfLatest() {
        Check.promise(4, "The FAULT of the latest tube(); 0 without one");
        MirrorTube x = new MirrorTube();
        Check.due("fault() without a tube()", x.fault(), 0);
        String[] texts = {"tube!", HEAD + ";want b at 0", HEAD + ";bit a", "tube rolls 101",
            HEAD + ";holiday 0;holiday 1;holiday 2;holiday 3;holiday 4;holiday 5;holiday 6;holiday 7;holiday 8",
            "tube rolls 5"};
        for (int number = 1; number <= 6; number++) {
            Check.tell(x, texts[number - 1]);
            Check.due("fault()", x.fault(), number);
            Check.tell(x, HEAD);
            Check.due("fault() without one", x.fault(), 0);
        }
    }

    private static void faultAndWrongNumber() {
        Check.promise(4, "not refused by 2");
        MirrorTube x = new MirrorTube();
        x.tube(-1);
        Check.due("fault() behind tube(-1) alone", x.fault(), 0);
        Check.tell(x, "tube rolls 101");
        x.tube(1);
        x.tube(-1);
        Check.due("fault() behind a refusal by 2", x.fault(), 4);
        Check.tell(x, HEAD);
        x.tube(1);
        Check.due("fault() behind a refusal by 2", x.fault(), 0);
    }

    private static void whereOfFault() {
        Check.promise(5, "Its place, if the latest call that may be refused was by 4");
        MirrorTube x = new MirrorTube();
        Check.tell(x, "!");
        Check.due("where(): the first byte", x.where(), 0);
        Check.due("where() asked again", x.where(), 0);
        Check.tell(x, "tube rolls 101");
        Check.due("where()", x.where(), 11);
        Check.tell(x, HEAD + ";");
        Check.due("where(): the end", x.where(), 34);
    }

    private static void whereElse() {
        Check.promise(5, "NONE else");
        MirrorTube x = new MirrorTube();
        Check.due("where() of a new object", x.where(), -1);
        Check.tell(x, "!");
        x.tube(1);
        Check.due("where() behind a refusal by 2", x.where(), -1);
        Check.tell(x, "!");
        x.top(0);
        Check.due("where() behind a refusal by 1", x.where(), -1);
        Check.tell(x, "!");
        x.undo();
        Check.due("where() behind a refusal by 6", x.where(), -1);
        Check.tell(x, HEAD);
        Check.due("where() behind a TUBE", x.where(), -1);
        Check.tell(x, "!");
        x.top(0);
        Check.due("where() behind an answer", x.where(), -1);
    }

    private static void whereAndOtherCalls() {
        Check.promise(5, "the latest call that may be refused: of others no number is told");
        MirrorTube x = Check.told(HEAD);
        Check.tell(x, HEAD + ";x");
        x.feed(0, 0, 0, 0, 0);
        Check.due("where() behind feed()", x.where(), 34);
        x.fault();
        Check.due("where() behind fault()", x.where(), 34);
        x.trouble();
        Check.due("where() behind trouble()", x.where(), 34);
        x.size(11);
        Check.due("where() behind size()", x.where(), 34);
        x.led(0);
        Check.due("where() behind led()", x.where(), 34);
    }
}
