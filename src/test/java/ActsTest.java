import java.util.NoSuchElementException;

/** Promises 48 to 56: turn, go, waits, undo, image, back, led, size, trouble. */
public final class ActsTest {
    private static final String TEXT = "tube rolls 42;bit l light x at 0;bit p plain x at 0;bit h heavy x at 0;"
            + "want l at 1;want h at 2;after p at 3;met 4 x;met 5 x;met 6 x;met 7 x;"
            + "holiday 2;holiday 3;holiday 50;holiday 51;holiday 52;person a in 0 at 0;person b in 5 at 0";

    private ActsTest() {
    }

    public static void main(String[] args) {
        noTube();
        turn();
        go();
        waits();
        undo();
        sixteen();
        images();
        led();
        sizes();
        trouble();
        Check.end();
    }

    private static void noTube() {
        MirrorTube x = new MirrorTube();
        Check.refused(x, "turn(1)", x.turn(1), 1);
        Check.refused(x, "turn(0)", x.turn(0), 1);
        Check.refused(x, "go(0, true)", x.go(0, true), 1);
        Check.refused(x, "waits(1)", x.waits(1), 1);
        Check.refused(x, "waits(0)", x.waits(0), 1);
        Check.due("undo()", x.undo(), false);
        Check.due("trouble()", x.trouble(), 6);
        Check.refused(x, "image()", x.image(), 1);
        Check.due("back(0)", x.back(0), false);
        Check.due("trouble()", x.trouble(), 1);
    }

    private static void cellsAre(MirrorTube x, int... cells) {
        for (int b = 0; b < cells.length; b++) {
            Check.due("bit(" + b + ", 2)", x.bit(b, 2), cells[b]);
        }
    }

    private static void turn() {
        MirrorTube x = Check.told(TEXT);
        Check.answered(x, "turn(1)", x.turn(1), 3);
        cellsAre(x, 2, 1, 0);
        Check.answered(x, "turn(-6)", x.turn(-6), 3);
        cellsAre(x, 2, 7, 9);
        Check.answered(x, "turn(6)", x.turn(6), 3);
        Check.answered(x, "turn(-1)", x.turn(-1), 1);
        cellsAre(x, 0, 0, 0);
        Check.due("size(7): a TURN takes no day", x.size(7), 0);
        Check.refused(x, "turn(0)", x.turn(0), 2);
        Check.refused(x, "turn(7)", x.turn(7), 2);
        Check.refused(x, "turn(-7)", x.turn(-7), 2);
        x.waits(2);
        Check.refused(x, "turn(1) on a holiday", x.turn(1), 5);
        Check.refused(x, "turn(7) on a holiday: 2 ahead of 5", x.turn(7), 2);
        cellsAre(x, 0, 0, 0);
        Check.due("size(8): what is refused is no ACT", x.size(8), 5);
        x.waits(2);
        Check.answered(x, "turn(2) on day 4", x.turn(2), 3);
    }

    private static void go() {
        MirrorTube x = Check.told(TEXT);
        Check.answered(x, "go(0, false): to 5/0, an empty cell", x.go(0, false), 1);
        Check.due("person(0, 0)", x.person(0, 0), 5);
        Check.due("person(0, 1)", x.person(0, 1), 0);
        Check.answered(x, "go(0, true): to 0/0, where the heavy one is seen", x.go(0, true), 4);
        Check.due("person(0, 2)", x.person(0, 2), 5);
        Check.answered(x, "go(1, false)", x.go(1, false), 1);
        Check.due("person(1, 1)", x.person(1, 1), 1);
        Check.refused(x, "go(2, true)", x.go(2, true), 1);
        Check.refused(x, "go(-1, true)", x.go(-1, true), 1);
        x.waits(2);
        Check.answered(x, "go(0, true) on a holiday", x.go(0, true), 1);
    }

    private static void waits() {
        MirrorTube x = Check.told(TEXT);
        for (int k = 1; k <= 10; k++) {
            Check.answered(x, "waits(99)", x.waits(99), 99 * k);
        }
        Check.refused(x, "waits(10)", x.waits(10), 3);
        Check.due("size(7)", x.size(7), 990);
        Check.answered(x, "waits(9)", x.waits(9), 999);
        Check.refused(x, "waits(1)", x.waits(1), 3);
        Check.refused(x, "waits(0)", x.waits(0), 2);
        Check.refused(x, "waits(-1)", x.waits(-1), 2);
        Check.refused(x, "waits(100): 2 ahead of 3", x.waits(100), 2);
        Check.due("size(8)", x.size(8), 11);
    }

    private static void undone(MirrorTube x, boolean due) {
        Check.due("undo()", x.undo(), due);
        Check.due("trouble() behind undo()", x.trouble(), due ? 0 : 6);
    }

    private static void undo() {
        MirrorTube x = Check.told(TEXT);
        undone(x, false);
        x.turn(1);
        x.go(0, true);
        x.waits(2);
        undone(x, true);
        Check.due("size(7)", x.size(7), 0);
        Check.due("person(0, 1)", x.person(0, 1), 1);
        Check.due("person(0, 2)", x.person(0, 2), 3);
        undone(x, true);
        Check.due("person(0, 1)", x.person(0, 1), 0);
        Check.due("person(0, 2)", x.person(0, 2), 0);
        cellsAre(x, 2, 1, 0);
        undone(x, true);
        cellsAre(x, 0, 0, 0);
        undone(x, false);
        x.waits(2);
        x.turn(1);
        undone(x, true);
        Check.due("size(7): the refused turn is no ACT", x.size(7), 0);
    }

    private static void sixteen() {
        MirrorTube x = Check.told(TEXT);
        for (int k = 1; k <= 40; k++) {
            x.go(0, true);
            Check.due("size(8)", x.size(8), Math.min(k, 16));
        }
        for (int k = 15; k >= 0; k--) {
            undone(x, true);
            Check.due("size(8)", x.size(8), k);
        }
        undone(x, false);
        Check.due("the country behind 24 steps", x.person(0, 0), 2);
        Check.due("the cell behind 24 steps", x.person(0, 1), 0);
    }

    private static void images() {
        MirrorTube x = Check.told(TEXT);
        Check.answered(x, "image()", x.image(), 0);
        x.turn(1);
        x.go(1, true);
        Check.answered(x, "image()", x.image(), 1);
        Check.due("size(8)", x.size(8), 2);
        x.waits(7);
        Check.answered(x, "image()", x.image(), 2);
        Check.refused(x, "image()", x.image(), 3);
        Check.due("size(9)", x.size(9), 3);
        Check.due("back(3)", x.back(3), false);
        Check.due("trouble()", x.trouble(), 1);
        Check.due("back(-1)", x.back(-1), false);
        Check.due("size(8): nothing went back", x.size(8), 3);
        Check.due("back(0)", x.back(0), true);
        Check.due("trouble()", x.trouble(), 0);
        cellsAre(x, 0, 0, 0);
        Check.due("person(1, 0)", x.person(1, 0), 5);
        Check.due("person(1, 2)", x.person(1, 2), 0);
        Check.due("size(7)", x.size(7), 0);
        Check.due("size(8)", x.size(8), 0);
        Check.due("size(9): all IMAGES stay", x.size(9), 3);
        undone(x, false);
        Check.due("back(2)", x.back(2), true);
        cellsAre(x, 2, 1, 0);
        Check.due("size(7)", x.size(7), 7);
        Check.due("person(1, 0)", x.person(1, 0), 0);
        x.turn(1);
        undone(x, true);
        undone(x, false);
        cellsAre(x, 2, 1, 0);
        x.turn(2);
        Check.due("back(2)", x.back(2), true);
        cellsAre(x, 2, 1, 0);
        Check.due("back(1)", x.back(1), true);
        Check.due("size(7)", x.size(7), 0);
        x.feed(0, 0, 0, 0, 0);
        x.back(1);
        Check.due("size(10): THE TAPE is no part of an IMAGE", x.size(10), 20);
    }

    private static void ledNot(MirrorTube x, int i) {
        boolean thrown = false;
        try {
            x.led(i);
        } catch (NoSuchElementException e) {
            thrown = true;
        }
        Check.due("led(" + i + ") throws", thrown, true);
    }

    private static void led() {
        MirrorTube x = new MirrorTube();
        ledNot(x, 0);
        Check.due("trouble() behind led()", x.trouble(), 0);
        Check.tell(x, TEXT);
        Check.due("led(0)", x.led(0), 2);
        ledNot(x, 1);
        ledNot(x, -1);
        x.turn(1);
        for (int i = 0; i < 3; i++) {
            Check.due("led(" + i + ")", x.led(i), i);
        }
        x.turn(0);
        ledNot(x, 3);
        Check.due("trouble() is not led's", x.trouble(), 2);
    }

    private static void sizes() {
        MirrorTube x = Check.told(TEXT);
        x.waits(4);
        x.turn(1);
        x.image();
        x.feed(0, 0, 0, 0, 0);
        int[] due = {42, 3, 2, 1, 4, 5, 2, 4, 2, 1, 20};
        x.turn(0);
        for (int what = 0; what <= 10; what++) {
            Check.due("size(" + what + ")", x.size(what), due[what]);
        }
        Check.due("size(11)", x.size(11), -1);
        Check.due("size(-1)", x.size(-1), -1);
        Check.due("trouble() is not size's", x.trouble(), 2);
    }

    private static void trouble() {
        MirrorTube x = new MirrorTube();
        Check.due("trouble()", x.trouble(), 0);
        x.tube(1);
        Check.due("trouble()", x.trouble(), 2);
        x.trouble();
        x.fault();
        x.where();
        Check.due("trouble() behind calls that are never refused", x.trouble(), 2);
        Check.tell(x, TEXT);
        Check.due("trouble()", x.trouble(), 0);
        x.back(0);
        Check.due("trouble()", x.trouble(), 1);
        x.turnsTo();
        Check.due("trouble() behind -2, which is no refusal", x.trouble(), 0);
    }
}
