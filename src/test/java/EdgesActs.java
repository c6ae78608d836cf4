import java.util.List;
import java.util.NoSuchElementException;
import java.util.function.ToLongFunction;

/** Boundary cases of promises 48 to 56: acts, undoing, images, and what is told. */
final class EdgesActs {
    private static final String TEXT = "tube rolls 0;bit l light x at 11;bit p plain x at 11;bit h heavy x at 11;"
            + "bit g glued x at 11;holiday 0;holiday 5;holiday 99;person a in 0 at 0;person b in 5 at 11";

    private EdgesActs() {
    }

    static void run() {
        turnNumbers();
        turnNotByZero();
        turnOnHolidays();
        turnRefusedInOrder();
        turnRound();
        goNumbers();
        goThroughMirrors();
        goOnHolidays();
        waitsNumbers();
        waitsTooLong();
        undoNone();
        undoLatest();
        undoSixteen();
        undoNotRefused();
        undoIsNoAct();
        imageRoom();
        imageIsNoAct();
        backNoneSuch();
        backAllAsByIt();
        backImagesStay();
        backNothingUndone();
        ledNoneSuch();
        ledFirstAndLast();
        sizeOthers();
        sizeNoneAndFull();
        sizeHasNoTrouble();
        troubleOfEach();
        troubleOfAnswers();
        troubleOfLatest();
        calls512();
    }

    /** On a day that is no holiday. */
    private static MirrorTube dayOne() {
        MirrorTube x = Check.told(TEXT);
        x.waits(1);
        return x;
    }

    private static void cellsAre(MirrorTube x, String when, int... cells) {
        for (int b = 0; b < cells.length; b++) {
            Check.due("bit(" + b + ", 2) " + when, x.bit(b, 2), cells[b]);
        }
    }

    // ---- turn

    private static void turnNumbers() {
        Check.promise(48, "TURN (-6 .. 6). NONE: 1 (no TUBE); 2");
        Edge.within(Edge.FULL, "turn(clicks)", -6, 6, 2, (x, clicks) -> x.turn(clicks));
        Edge.needsTube("turn(1)", x -> x.turn(1));
        Edge.needsTubeFirst("turn(clicks)", 7, (x, clicks) -> x.turn(clicks));
    }

    private static void turnNotByZero() {
        Check.promise(48, "not 0");
        MirrorTube x = Edge.used(Edge.FULL);
        String before = Edge.picture(x);
        Check.refused(x, "turn(0)", x.turn(0), 2);
        Check.due("turn(0) leaves all as it is", Edge.picture(x).equals(before), true);
        Check.answered(x, "turn(-1)", x.turn(-1), 4);
        Edge.needsTubeFirst("turn(clicks)", 0, (y, clicks) -> y.turn(clicks));
    }

    private static void turnOnHolidays() {
        Check.promise(48, "5 (a holiday)");
        for (int day : new int[] {0, 1, 4, 5, 6, 98, 99}) {
            MirrorTube x = Check.told(TEXT);
            if (day > 0) {
                x.waits(day);
            }
            boolean holiday = day == 0 || day == 5 || day == 99;
            String before = Edge.picture(x);
            boolean refused = x.turn(1) == -1;
            Check.due("trouble() behind turn(1) on day " + day, x.trouble(), holiday ? 5 : 0);
            Check.due("turn(1) on day " + day + " is refused", refused, holiday);
            Check.due("all is as it was on day " + day, Edge.picture(x).equals(before), holiday);
        }
    }

    private static void turnRefusedInOrder() {
        Check.promise(48, "NONE: 2; 5 (a holiday): 2 is told first");
        MirrorTube x = Check.told(TEXT);
        for (int wrong : new int[] {0, 7, -7, Integer.MAX_VALUE, Integer.MIN_VALUE}) {
            Check.refused(x, "turn(" + wrong + ") on a holiday", x.turn(wrong), 2);
        }
        Check.refused(x, "turn(6) on a holiday", x.turn(6), 5);
    }

    private static void turnRound() {
        Check.promise(48, "how many are on TOP then: the cells lie in a ring");
        MirrorTube x = dayOne();
        Check.answered(x, "turn(1)", x.turn(1), 3);
        cellsAre(x, "behind 1", 1, 0, 11, 11);
        Check.answered(x, "turn(6)", x.turn(6), 4);
        cellsAre(x, "behind 6", 1, 6, 2, 11);
        Check.answered(x, "turn(-6)", x.turn(-6), 3);
        cellsAre(x, "behind -6", 1, 0, 11, 11);
        Check.answered(x, "turn(-1)", x.turn(-1), 1);
        cellsAre(x, "behind -1", 11, 11, 11, 11);
        Check.answered(x, "turn(-5)", x.turn(-5), 4);
        cellsAre(x, "behind -5", 1, 6, 9, 11);
        Check.due("size(7): a turn takes no day", x.size(7), 1);
    }

    // ---- go

    private static void goNumbers() {
        Check.promise(49, "NONE: 1");
        Edge.within(Edge.FULL, "go(p, true)", 0, 3, 1, (x, p) -> x.go(p, true));
        Edge.within(Edge.FULL, "go(p, false)", 0, 3, 1, (x, p) -> x.go(p, false));
        Edge.needsTube("go(0, true)", x -> x.go(0, true));
        MirrorTube nobody = Check.told("tube rolls 0;bit a light x at 0");
        Check.refused(nobody, "go(0, true): there is nobody", nobody.go(0, true), 1);
    }

    private static void goThroughMirrors() {
        Check.promise(49, "GO one step UP (or not, DOWN), through a mirror where there is none");
        int[][] steps = {{0, 11, 1, 11}, {1, 0, 2, 0}, {2, 11, 3, 11}, {3, 0, 4, 0}, {4, 11, 5, 11}, {5, 0, 0, 0},
            {0, 0, 0, 1}, {0, 10, 0, 11}, {1, 11, 1, 10}, {1, 1, 1, 0}, {5, 11, 5, 10}, {5, 1, 5, 0}};
        for (int[] s : steps) {
            stepIs(s[0], s[1], true, s[2], s[3]);
            stepIs(s[2], s[3], false, s[0], s[1]);
        }
    }

    private static void stepIs(int country, int cell, boolean up, int toCountry, int toCell) {
        // The glued one is seen in 3/0 and in no other cell of those gone to here.
        MirrorTube x = Check.told("tube rolls 0;bit g glued x at 5;person p in " + country + " at " + cell);
        String name = "go(0, " + up + ") from " + country + "/" + cell;
        Check.answered(x, name, x.go(0, up), toCountry == 3 && toCell == 0 ? 5 : 1);
        Check.due("the country behind " + name, x.person(0, 0), toCountry);
        Check.due("the cell behind " + name, x.person(0, 1), toCell);
    }

    private static void goOnHolidays() {
        Check.promise(49, "ACTS: TURN (not on a holiday), GO (a person, one step)");
        MirrorTube x = Check.told(TEXT);
        Check.refused(x, "turn(1) on day 0", x.turn(1), 5);
        Check.answered(x, "go(0, true) on day 0", x.go(0, true), 1);
        Check.due("size(7): a step takes no day", x.size(7), 0);
        Check.due("person(1, 1): the other stays", x.person(1, 1), 11);
    }

    // ---- waits

    private static void waitsNumbers() {
        Check.promise(50, "WAIT (1 .. 99): the day then. NONE: 1 (no TUBE); 2");
        Edge.within(Edge.FULL, "waits(days)", 1, 99, 2, (x, days) -> x.waits(days));
        Edge.needsTube("waits(1)", x -> x.waits(1));
        Edge.needsTubeFirst("waits(days)", 0, (x, days) -> x.waits(days));
        MirrorTube x = Check.told(TEXT);
        Check.answered(x, "waits(1), on a holiday, too", x.waits(1), 1);
        Check.answered(x, "waits(99)", x.waits(99), 100);
    }

    private static void waitsTooLong() {
        Check.promise(50, "3 (it would be above 999)");
        MirrorTube x = Check.told(TEXT);
        for (int waits = 1; waits <= 10; waits++) {
            Check.answered(x, "waits(99)", x.waits(99), 99 * waits);
        }
        String before = Edge.picture(x);
        Check.refused(x, "waits(10) on day 990", x.waits(10), 3);
        Check.refused(x, "waits(99) on day 990", x.waits(99), 3);
        Check.refused(x, "waits(100) on day 990: 2 is told first", x.waits(100), 2);
        Check.due("all is as it was", Edge.picture(x).equals(before), true);
        Check.answered(x, "waits(9) on day 990", x.waits(9), 999);
        Check.refused(x, "waits(1) on day 999", x.waits(1), 3);
        Check.refused(x, "waits(0) on day 999: 2 is told first", x.waits(0), 2);
        Check.answered(x, "turn(1) on day 999", x.turn(1), 3);
    }

    // ---- undo

    private static void undone(MirrorTube x, boolean due) {
        Check.due("undo()", x.undo(), due);
        Check.due("trouble() behind undo()", x.trouble(), due ? 0 : 6);
    }

    private static void undoNone() {
        Check.promise(51, "false: 6");
        MirrorTube x = new MirrorTube();
        undone(x, false);
        Check.tell(x, TEXT);
        undone(x, false);
        x.waits(1);
        undone(x, true);
        undone(x, false);
        Check.due("size(7)", x.size(7), 0);
    }

    private static void undoLatest() {
        Check.promise(51, "UNDO: the latest");
        MirrorTube x = Check.told(TEXT);
        String first = Edge.picture(x);
        x.waits(99);
        x.waits(1);
        String second = Edge.picture(x);
        x.turn(-6);
        String third = Edge.picture(x);
        x.go(1, false);
        undone(x, true);
        Check.due("as it was before go()", Edge.picture(x).equals(third), true);
        undone(x, true);
        Check.due("as it was before turn()", Edge.picture(x).equals(second), true);
        undone(x, true);
        undone(x, true);
        Check.due("as it was told", Edge.picture(x).equals(first), true);
        Check.due("person(1, 2)", x.person(1, 2), 0);
    }

    private static void undoSixteen() {
        Check.promise(51, "(16 are kept)");
        for (int acts : new int[] {15, 16, 17, 32, 33, 44}) {
            MirrorTube x = Check.told(TEXT);
            for (int k = 1; k <= acts; k++) {
                x.waits(k);
                Check.due("size(8) behind " + k, x.size(8), Math.min(k, 16));
            }
            int kept = Math.min(acts, 16);
            for (int left = kept - 1; left >= 0; left--) {
                undone(x, true);
                int k = acts - kept + left;
                Check.due("size(7) behind " + k + " of " + acts, x.size(7), k * (k + 1) / 2);
                Check.due("size(8)", x.size(8), left);
            }
            undone(x, false);
        }
    }

    private static void undoNotRefused() {
        Check.promise(51, "a call that was refused is none of the ACTS");
        MirrorTube x = dayOne();
        x.turn(2);
        x.turn(0);
        x.turn(7);
        x.go(2, true);
        x.waits(0);
        x.waits(100);
        x.waits(4);
        x.turn(1);
        Check.due("size(8): waits(1), turn(2), waits(4)", x.size(8), 3);
        undone(x, true);
        Check.due("size(7)", x.size(7), 1);
        undone(x, true);
        cellsAre(x, "behind undo()", 11, 11, 11, 11);
        undone(x, true);
        undone(x, false);
    }

    private static void undoIsNoAct() {
        Check.promise(51, "ACTS that can be undone: an UNDO is none");
        MirrorTube x = Check.told(TEXT);
        for (int k = 0; k < 20; k++) {
            x.waits(1);
        }
        undone(x, true);
        undone(x, true);
        Check.due("size(8)", x.size(8), 14);
        x.waits(9);
        Check.due("size(7)", x.size(7), 27);
        Check.due("size(8)", x.size(8), 15);
        for (int k = 0; k < 15; k++) {
            undone(x, true);
        }
        undone(x, false);
        Check.due("size(7): the first four cannot be undone", x.size(7), 4);
    }

    // ---- images

    private static void imageRoom() {
        Check.promise(52, "its number. NONE: 1 (no TUBE); 3: up to 3");
        Edge.needsTube("image()", x -> x.image());
        MirrorTube x = Check.told(TEXT);
        for (int number = 0; number < 3; number++) {
            Check.answered(x, "image()", x.image(), number);
            Check.due("size(9)", x.size(9), number + 1);
        }
        for (int more = 0; more < 2; more++) {
            Check.refused(x, "image(): a fourth", x.image(), 3);
            Check.due("size(9)", x.size(9), 3);
        }
        x.back(0);
        Check.refused(x, "image() behind back()", x.image(), 3);
        Check.tell(x, TEXT);
        Check.answered(x, "image() of a new TUBE", x.image(), 0);
    }

    private static void imageIsNoAct() {
        Check.promise(52, "An IMAGE is none of the ACTS");
        MirrorTube x = Check.told(TEXT);
        x.waits(7);
        x.image();
        Check.due("size(8)", x.size(8), 1);
        undone(x, true);
        Check.due("size(7)", x.size(7), 0);
        Check.due("size(9): the IMAGE is not undone", x.size(9), 1);
        Check.due("back(0)", x.back(0), true);
        Check.due("size(7)", x.size(7), 7);
    }

    private static void backNoneSuch() {
        Check.promise(53, "false: 1");
        MirrorTube x = new MirrorTube();
        backNot(x, 0);
        Check.tell(x, TEXT);
        backNot(x, 0);
        for (int images = 1; images <= 3; images++) {
            x.waits(1);
            x.image();
            String before = Edge.picture(x);
            for (int wrong : new int[] {-1, images, 3, Integer.MIN_VALUE, Integer.MAX_VALUE}) {
                backNot(x, wrong);
            }
            Check.due("all is as it was", Edge.picture(x).equals(before), true);
            Check.due("back(" + (images - 1) + ")", x.back(images - 1), true);
            Check.due("trouble() behind back()", x.trouble(), 0);
        }
        Check.tell(x, TEXT);
        backNot(x, 0);
    }

    private static void backNot(MirrorTube x, int image) {
        Check.due("back(" + image + ")", x.back(image), false);
        Check.due("trouble() behind back(" + image + ")", x.trouble(), 1);
    }

    private static void backAllAsByIt() {
        Check.promise(53, "All is as by an IMAGE");
        MirrorTube x = Check.told(TEXT);
        x.waits(1);
        x.turn(5);
        x.go(0, false);
        int[] sizes = {0, 4, 0, 0, 0, 3, 2, 1};
        x.image();
        x.waits(98);
        x.waits(1);
        x.turn(-3);
        x.go(0, true);
        x.go(1, true);
        Check.due("back(0)", x.back(0), true);
        cellsAre(x, "behind back()", 9, 4, 1, 11);
        Check.due("person(0, 0)", x.person(0, 0), 5);
        Check.due("person(0, 1)", x.person(0, 1), 0);
        Check.due("person(0, 2): into the light one's cell", x.person(0, 2), 2);
        Check.due("person(1, 1)", x.person(1, 1), 11);
        Check.due("person(1, 2)", x.person(1, 2), 0);
        for (int what = 0; what < sizes.length; what++) {
            Check.due("size(" + what + ")", x.size(what), sizes[what]);
        }
    }

    private static void backImagesStay() {
        Check.promise(53, "(all IMAGES stay)");
        MirrorTube x = Check.told(TEXT);
        for (int k = 0; k < 3; k++) {
            x.image();
            x.waits(10);
        }
        for (int image : new int[] {2, 0, 1, 1, 2, 0}) {
            Check.due("back(" + image + ")", x.back(image), true);
            Check.due("size(7)", x.size(7), 10 * image);
            Check.due("size(9)", x.size(9), 3);
            // What is done then leaves the IMAGE as it is.
            x.waits(3);
            x.go(0, true);
        }
    }

    private static void backNothingUndone() {
        Check.promise(53, "gone back to one, nothing can be undone");
        MirrorTube x = Check.told(TEXT);
        x.waits(1);
        x.image();
        for (int k = 0; k < 20; k++) {
            x.waits(1);
        }
        x.back(0);
        Check.due("size(8)", x.size(8), 0);
        undone(x, false);
        Check.due("size(7)", x.size(7), 1);
        x.waits(2);
        undone(x, true);
        undone(x, false);
        Check.due("size(7)", x.size(7), 1);
        x.waits(2);
        x.back(5);
        Check.due("size(8): it was not gone back", x.size(8), 1);
    }

    // ---- what is told

    private static void ledNot(MirrorTube x, int i) {
        boolean thrown = false;
        try {
            x.led(i);
        } catch (NoSuchElementException e) {
            thrown = e.getClass() == NoSuchElementException.class;
        }
        Check.due("led(" + i + ") throws", thrown, true);
    }

    private static void ledNoneSuch() {
        Check.promise(54, "NoSuchElementException if there is none such");
        int[] wrong = {-1, Integer.MIN_VALUE, Integer.MAX_VALUE, 6};
        MirrorTube x = new MirrorTube();
        ledNot(x, 0);
        for (int i : wrong) {
            ledNot(x, i);
        }
        Check.due("trouble() behind led()", x.trouble(), 0);
        MirrorTube y = Edge.used(Edge.FULL);
        String before = Edge.picture(y);
        for (int i : wrong) {
            ledNot(y, i);
        }
        Check.due("all is as it was", Edge.picture(y).equals(before), true);
        y.undo();
        y.turn(0);
        ledNot(y, -1);
        Check.due("trouble() behind led()", y.trouble(), 2);
    }

    private static void ledFirstAndLast() {
        Check.promise(54, "The i-th bit, by numbers, that is on TOP");
        MirrorTube x = dayOne();
        Check.due("led(0): the last of four", x.led(0), 3);
        ledNot(x, 1);
        x.turn(1);
        int[] three = {0, 1, 3};
        for (int i = 0; i < 3; i++) {
            Check.due("led(" + i + ")", x.led(i), three[i]);
        }
        ledNot(x, 3);
        MirrorTube six = Check.told("tube rolls 0;bit a glued x at 11;bit b glued x at 9;bit c glued x at 7;"
                + "bit d glued x at 5;bit e glued x at 3;bit f glued x at 1");
        for (int i = 0; i < 6; i++) {
            Check.due("led(" + i + "): by numbers, not by cells", six.led(i), i);
        }
        ledNot(six, 6);
    }

    private static void sizeOthers() {
        Check.promise(55, "NONE for others");
        for (MirrorTube x : new MirrorTube[] {new MirrorTube(), Edge.used(Edge.FULL)}) {
            for (int what : new int[] {-1, 11, Integer.MIN_VALUE, Integer.MAX_VALUE}) {
                Check.due("size(" + what + ")", x.size(what), -1);
            }
        }
    }

    private static void sizeNoneAndFull() {
        Check.promise(55, "0 for what there isn't");
        MirrorTube x = new MirrorTube();
        MirrorTube least = Check.told("tube rolls 0;bit a light x at 0");
        MirrorTube full = Check.told(Edge.FULL);
        full.waits(1);
        for (int k = 0; k < 16; k++) {
            full.waits(k < 10 ? 99 : 1);
        }
        for (int k = 0; k < 3; k++) {
            full.image();
        }
        for (int k = 0; k < 40; k++) {
            full.feed(0, 0, 0, 0, 0);
        }
        int[] due = {50, 6, 6, 6, 6, 8, 4, 997, 16, 3, 800};
        for (int what = 0; what <= 10; what++) {
            Check.due("size(" + what + ") without a TUBE", x.size(what), 0);
            Check.due("size(" + what + ") of the least TUBE", least.size(what), what == 1 ? 1 : 0);
            Check.due("size(" + what + ") of the fullest TUBE", full.size(what), due[what]);
        }
    }

    private static void sizeHasNoTrouble() {
        Check.promise(55, "NONE for others: no number is told");
        MirrorTube x = Check.told(TEXT);
        x.turn(1);
        x.size(11);
        Check.due("trouble() behind size(11)", x.trouble(), 5);
        x.size(0);
        Check.due("trouble() behind size(0)", x.trouble(), 5);
    }

    private static void troubleOfEach() {
        Check.promise(56, "0 it wasn't; 1 there is none such; 2 a number; 3 no room; 4 a FAULT; 5 not so; "
                + "6 there is none");
        MirrorTube x = new MirrorTube();
        Check.due("trouble() of a new object", x.trouble(), 0);
        x.top(0);
        Check.due("trouble(): no TUBE", x.trouble(), 1);
        x.tube(1);
        Check.due("trouble(): a number", x.trouble(), 2);
        Check.tell(x, TEXT + ";");
        Check.due("trouble(): a FAULT", x.trouble(), 4);
        Check.tell(x, TEXT + ";want g at 0");
        Check.due("trouble(): a TUBE", x.trouble(), 0);
        x.turn(1);
        Check.due("trouble(): a holiday", x.trouble(), 5);
        x.turnAt(0);
        Check.due("trouble(): no row", x.trouble(), 6);
        x.turnsTo();
        Check.due("trouble(): -2 is no refusal", x.trouble(), 0);
        for (int k = 0; k < 4; k++) {
            x.image();
        }
        Check.due("trouble(): no room", x.trouble(), 3);
        x.undo();
        Check.due("trouble(): nothing to undo", x.trouble(), 6);
        x.back(3);
        Check.due("trouble(): no such IMAGE", x.trouble(), 1);
        x.two(0, 0, false);
        Check.due("trouble(): an answer", x.trouble(), 0);
        x.two(4, 0, false);
        Check.due("trouble(): a number", x.trouble(), 2);
        x.rolls(8, 0, true);
        Check.due("trouble(): an answer of a long", x.trouble(), 0);
    }

    private static void troubleOfAnswers() {
        Check.promise(56, "0 it wasn't");
        List<ToLongFunction<MirrorTube>> asks = List.of(
                x -> x.bit(0, 0), x -> x.bit(0, 1), x -> x.bit(0, 2), x -> x.bit(0, 3), x -> x.bit(0, 4),
                x -> x.bit(0, 5), x -> x.bit(0, 6), x -> x.top(0), x -> x.stack(0), x -> x.seen(0, 0),
                x -> x.lies(0, 0), x -> x.under(), x -> x.until(0), x -> x.behind(0, 0), x -> x.topsBehind(0),
                x -> x.twins(), x -> x.mostTops(), x -> x.right(), x -> x.turnsTo(), x -> x.turnAt(0),
                x -> x.bestTurn(), x -> x.can(0, 0), x -> x.made(0), x -> x.madeAt(0, 0), x -> x.fewestMade(),
                x -> x.same(0), x -> x.joins(0), x -> x.alike(0, 1), x -> x.which(), x -> x.surely(), x -> x.look(),
                x -> x.lookLeaves(), x -> x.judge(0), x -> x.rolls(8, 0, true), x -> x.rollsMore(8, 8, false),
                x -> x.watch(0), x -> x.person(0, 0), x -> x.person(0, 1), x -> x.person(0, 2), x -> x.way(0, 0, 0),
                x -> x.wayUp(0, 0, 0), x -> x.nearest(0, 0), x -> x.farthest(0), x -> x.ring(),
                x -> x.two(3, 3, true), x -> x.rests(), x -> x.rest(), x -> x.shaken(0, 0, 60),
                x -> x.topDays(0, 0, 60), x -> x.rightDays(0, 60), x -> x.turn(1), x -> x.go(0, true),
                x -> x.waits(1), x -> x.undo() ? 1 : 0, x -> x.image(), x -> x.back(0) ? 1 : 0,
                x -> Check.tell(x, TEXT));
        MirrorTube x = Check.told(TEXT + ";want p at 0");
        x.waits(1);
        for (int k = 0; k < asks.size(); k++) {
            Check.due("back(9)", x.back(9), false);
            Check.due("trouble() behind back(9)", x.trouble(), 1);
            asks.get(k).applyAsLong(x);
            Check.due("trouble() behind the answer " + k, x.trouble(), 0);
        }
    }

    private static void troubleOfLatest() {
        Check.promise(56, "TROUBLE of the latest call that may be refused (those of which a number is told here)");
        MirrorTube x = Check.told(TEXT);
        x.turn(1);
        x.trouble();
        x.fault();
        x.where();
        x.size(0);
        x.size(99);
        x.led(0);
        ledNot(x, 9);
        x.feed(0, 0, 0, 0, 0);
        for (int k = 0; k < 40; k++) {
            x.feed(0, 0, 0, 0, 0);
        }
        Check.due("trouble() behind calls of which no number is told", x.trouble(), 5);
        x.back(0);
        Check.due("trouble() behind one of which one is", x.trouble(), 1);
    }

    private static void calls512() {
        Check.promise(56, "An object is used for at most 512 calls after it has been made");
        MirrorTube x = new MirrorTube();
        int calls = 0;
        for (int from = 0; from < TEXT.length(); from += 20) {
            calls++;
        }
        Check.tell(x, TEXT);
        calls += 2;
        int steps = 0;
        for (; calls < 510; calls++) {
            steps += x.go(0, calls % 3 != 0);
        }
        Check.due("person(0, 2), the 511th call", x.person(0, 2), steps);
        Check.due("trouble(), the 512th call", x.trouble(), 0);
    }
}
