/** Boundary cases of promises 17 to 25: turns to what is wanted, turns that may have been made. */
final class EdgesTurns {
    private static final String PLAIN = "tube rolls 0;bit a plain x at 0";
    private static final String HEAVY = "tube rolls 0;bit a heavy x at 0";

    private EdgesTurns() {
    }

    static void run() {
        rightNoneAndAll();
        rightOfWantedOnly();
        turnsToNone();
        turnsToFive();
        turnsToNotInFive();
        turnsByThree();
        turnAtNumbers();
        turnAtNoRow();
        turnAtNoneAlsoElse();
        turnAtFirstRow();
        bestTurnNoTube();
        bestTurnAtTheBounds();
        bestTurnFirst();
        canNumbers();
        canAndCannot();
        madeNumbers();
        madeOfNoTurns();
        madeNotByZero();
        madeOfThoseToldOf();
        madeFromAsTold();
        madeAtNumbers();
        madeAtWrongLength();
        madeAtNone();
        madeAtOrder();
        fewestMadeBounds();
        sameNumbers();
        sameOfNoTurns();
        sameRound();
    }

    private static void rightNoneAndAll() {
        Check.promise(17, "Wanted bits that lie where they must NOW, as bits. NONE: 1 (no TUBE)");
        Edge.needsTube("right()", x -> x.right());
        StringBuilder text = new StringBuilder("tube rolls 0");
        for (int b = 0; b < 6; b++) {
            char name = (char) ('a' + b);
            text.append(";bit ").append(name).append(' ').append(Edge.SORTS[b % 4]).append(" x at 11");
            text.append(";want ").append(name).append(" at 11");
        }
        MirrorTube x = Check.told(text.toString());
        Check.answered(x, "right(): all six", x.right(), 63);
        x.turn(1);
        Check.answered(x, "right(): the heavy and the glued one", x.right(), 12);
        x.turn(2);
        Check.answered(x, "right(): the glued one", x.right(), 8);
        x.turn(-1);
        x.turn(-2);
        Check.answered(x, "right(): all six again", x.right(), 63);
        MirrorTube none = Check.told(PLAIN + ";want a at 1");
        Check.answered(none, "right(): none", none.right(), 0);
    }

    private static void rightOfWantedOnly() {
        Check.promise(17, "Wanted bits");
        MirrorTube x = Check.told(PLAIN + ";bit b glued x at 0;after a at 0");
        Check.answered(x, "right(): none is wanted", x.right(), 0);
        MirrorTube y = Check.told(PLAIN + ";bit b glued x at 0;want b at 0");
        Check.answered(y, "right(): the wanted one, in cell 0", y.right(), 2);
    }

    private static void turnsToNone() {
        Check.promise(18, "TO WANT: how many TURNS. NONE: 1 (no TUBE)");
        Edge.needsTube("turnsTo()", x -> x.turnsTo());
        MirrorTube x = Check.told(PLAIN);
        Check.answered(x, "turnsTo(): none is wanted", x.turnsTo(), 0);
        MirrorTube y = Check.told(PLAIN + ";want a at 0");
        Check.answered(y, "turnsTo(): it lies right", y.turnsTo(), 0);
    }

    private static void turnsToFive() {
        Check.promise(18, "the fewest TURNS, 5 at most");
        int[] due = {0, 1, 2, 3, 4, 5, -2, 5, 4, 3, 2, 1};
        for (int cell = 0; cell < 12; cell++) {
            MirrorTube x = Check.told(HEAVY + ";want a at " + cell);
            Check.answered(x, "turnsTo() of a heavy one wanted at " + cell, x.turnsTo(), due[cell]);
        }
    }

    private static void turnsToNotInFive() {
        Check.promise(18, "-2 not in 5");
        MirrorTube six = Check.told(HEAVY + ";want a at 6");
        Check.answered(six, "turnsTo(): it would take 6", six.turnsTo(), -2);
        six.turn(2);
        Check.answered(six, "turnsTo(): it takes 5", six.turnsTo(), 5);
        MirrorTube glued = Check.told("tube rolls 0;bit a glued x at 0;want a at 1");
        Check.answered(glued, "turnsTo() of a glued one", glued.turnsTo(), -2);
        MirrorTube light = Check.told("tube rolls 0;bit a light x at 0;want a at 11");
        Check.answered(light, "turnsTo() of a light one, an odd way", light.turnsTo(), -2);
        MirrorTube apart = Check.told(PLAIN + ";bit b plain x at 0;want a at 1;want b at 2");
        Check.answered(apart, "turnsTo() of two that cannot part", apart.turnsTo(), -2);
    }

    private static void turnsByThree() {
        Check.promise(18, "TURNS by -3 to 3");
        int[] due = {0, 1, 1, 1, 2, 2, 2, 2, 2, 1, 1, 1};
        for (int cell = 0; cell < 12; cell++) {
            MirrorTube x = Check.told(PLAIN + ";want a at " + cell);
            Check.answered(x, "turnsTo() of a plain one wanted at " + cell, x.turnsTo(), due[cell]);
        }
    }

    private static void turnAtNumbers() {
        Check.promise(19, "NONE: 1 (i, too)");
        Edge.within("tube rolls 0;bit a heavy x at 7;want a at 0", "turnAt(i) of a row of 5", 0, 4, 1,
                (x, i) -> x.turnAt(i));
        Edge.within(PLAIN + ";want a at 4", "turnAt(i) of a row of 1", 0, 0, 1, (x, i) -> x.turnAt(i));
        Edge.needsTube("turnAt(0)", x -> x.turnAt(0));
    }

    private static void turnAtNoRow() {
        Check.promise(19, "6 (none)");
        MirrorTube x = Check.told(HEAVY + ";want a at 6");
        Check.refused(x, "turnAt(0)", x.turnAt(0), 6);
        Check.refused(x, "turnAt(4)", x.turnAt(4), 6);
    }

    private static void turnAtNoneAlsoElse() {
        Check.promise(19, "The i-th TURN of the row: a row of none has no i-th");
        MirrorTube x = Check.told(PLAIN + ";want a at 0");
        Check.refused(x, "turnAt(0)", x.turnAt(0), 1);
        MirrorTube y = Check.told(PLAIN);
        Check.refused(y, "turnAt(0)", y.turnAt(0), 1);
    }

    private static void rowIs(String text, int... clicks) {
        MirrorTube x = Check.told(text);
        Check.answered(x, "turnsTo() of " + text, x.turnsTo(), clicks.length);
        for (int i = 0; i < clicks.length; i++) {
            Check.answered(x, "turnAt(" + i + ") of " + text, x.turnAt(i), clicks[i] + 3);
        }
    }

    private static void turnAtFirstRow() {
        Check.promise(19, "of like ones the first row, -3 ahead of all");
        rowIs(PLAIN + ";want a at 9", -3);
        rowIs(PLAIN + ";want a at 3", 3);
        rowIs(PLAIN + ";want a at 6", -3, -3);
        rowIs(PLAIN + ";want a at 8", -3, -1);
        rowIs(PLAIN + ";want a at 4", 1, 3);
        rowIs("tube rolls 0;bit a light x at 0;want a at 6", -3);
        rowIs(HEAVY + ";want a at 5", 2, 2, 2, 2, 2);
        rowIs(HEAVY + ";want a at 7", -3, -3, -3, -3, -3);
        // Both by one turn, then by two: 1 back and 2 forth bring the plain one 1 on, the heavy one, too.
        rowIs(PLAIN + ";bit b heavy x at 0;want a at 3;want b at 1", 3);
        rowIs(PLAIN + ";bit b heavy x at 0;want a at 10;want b at 11", -2);
        rowIs(PLAIN + ";bit b heavy x at 0;want a at 1;want b at 1", -1, 2);
    }

    private static void bestTurnNoTube() {
        Check.promise(20, "NONE: 1 (no TUBE)");
        Edge.needsTube("bestTurn()", x -> x.bestTurn());
    }

    private static void bestTurnAtTheBounds() {
        Check.promise(20, "The TURN by -3 to 3 (0, too), and 3");
        int[] due = {3, 4, 5, 6, 0, 0, 0, 0, 0, 0, 1, 2};
        for (int cell = 0; cell < 12; cell++) {
            MirrorTube x = Check.told(PLAIN + ";want a at " + cell);
            Check.answered(x, "bestTurn() of a plain one wanted at " + cell, x.bestTurn(), due[cell]);
        }
    }

    private static void bestTurnFirst() {
        Check.promise(20, "by which most wanted ones lie right, the first such");
        MirrorTube none = Check.told(PLAIN);
        Check.answered(none, "bestTurn(): none is wanted", none.bestTurn(), 0);
        MirrorTube two = Check.told(PLAIN + ";bit b plain x at 0;want a at 3;want b at 10");
        Check.answered(two, "bestTurn(): by -2 one, by 3 one", two.bestTurn(), 1);
        MirrorTube three = Check.told(PLAIN + ";bit b plain x at 0;bit c plain x at 1;"
                + "want a at 3;want b at 10;want c at 4");
        Check.answered(three, "bestTurn(): by -2 one, by 3 two", three.bestTurn(), 6);
    }

    private static void canNumbers() {
        Check.promise(21, "NONE: 1; 2");
        Edge.within(Edge.FULL, "can(b, 0)", 0, 5, 1, (x, b) -> x.can(b, 0));
        Edge.within(Edge.FULL, "can(0, cell)", 0, 11, 2, (x, cell) -> x.can(0, cell));
        Edge.needsTube("can(0, 0)", x -> x.can(0, 0));
        Edge.needsTubeFirst("can(0, cell)", 12, (x, cell) -> x.can(0, cell));
        MirrorTube x = Check.told(PLAIN);
        Check.refused(x, "can(1, 12): 1 is told first", x.can(1, 12), 1);
    }

    private static void canAndCannot() {
        Check.promise(21, "CAN a bit ever lie in a cell, by any TURNS by -3 to 3: 1, 0");
        for (int at = 0; at < 12; at++) {
            for (int cell = 0; cell < 12; cell++) {
                String name = "can(0, " + cell + ") from " + at + ", ";
                MirrorTube light = Edge.alone("light", at);
                Check.answered(light, name + "light", light.can(0, cell), (at + cell) % 2 == 0 ? 1 : 0);
                MirrorTube plain = Edge.alone("plain", at);
                Check.answered(plain, name + "plain", plain.can(0, cell), 1);
                MirrorTube heavy = Edge.alone("heavy", at);
                Check.answered(heavy, name + "heavy", heavy.can(0, cell), 1);
                MirrorTube glued = Edge.alone("glued", at);
                Check.answered(glued, name + "glued", glued.can(0, cell), at == cell ? 1 : 0);
            }
        }
    }

    private static void madeNumbers() {
        Check.promise(22, "rows of n TURNS (0 .. 4). NONE: 1 (no TUBE); 2");
        Edge.within(Edge.FULL, "made(n)", 0, 4, 2, (x, n) -> x.made(n));
        Edge.needsTube("made(0)", x -> x.made(0));
        Edge.needsTubeFirst("made(n)", 5, (x, n) -> x.made(n));
    }

    private static void madeOfNoTurns() {
        Check.promise(22, "how many rows of n TURNS: of 0");
        MirrorTube free = Check.told(PLAIN);
        Check.answered(free, "made(0): none is told of", free.made(0), 1);
        MirrorTube still = Check.told(PLAIN + ";after a at 0");
        Check.answered(still, "made(0): it lay there", still.made(0), 1);
        MirrorTube moved = Check.told(PLAIN + ";after a at 1");
        Check.answered(moved, "made(0): it lay elsewhere", moved.made(0), 0);
        MirrorTube heavy = Check.told(HEAVY + ";after a at 0");
        Check.answered(heavy, "made(0): a heavy one lay there", heavy.made(0), 1);
    }

    private static void madeNotByZero() {
        Check.promise(22, "MADE in n TURNS by -3 to 3 (not 0)");
        int[] due = {0, 1, 1, 1, 0, 0, 0, 0, 0, 1, 1, 1};
        for (int cell = 0; cell < 12; cell++) {
            MirrorTube x = Check.told(PLAIN + ";after a at " + cell);
            Check.answered(x, "made(1) to cell " + cell, x.made(1), due[cell]);
        }
        // Both told of: by one turn there is one, the other way round none.
        MirrorTube both = Check.told(PLAIN + ";bit b heavy x at 0;after a at 3;after b at 1");
        Check.answered(both, "made(1) of two told of", both.made(1), 1);
        Check.answered(both, "madeAt(1, 0) of two told of", both.madeAt(1, 0), 6);
        MirrorTube apart = Check.told(PLAIN + ";bit b heavy x at 0;after a at 9;after b at 1");
        Check.answered(apart, "made(1) of two that went apart", apart.made(1), 0);
        int[] rows = {1, 6, 36, 216, 1296};
        MirrorTube free = Check.told(PLAIN);
        for (int n = 0; n <= 4; n++) {
            Check.answered(free, "made(" + n + "): all rows there are", free.made(n), rows[n]);
        }
    }

    private static void madeOfThoseToldOf() {
        Check.promise(22, "to where they lay after (those told of)");
        MirrorTube x = Check.told(PLAIN + ";bit b glued x at 0;want b at 5;after a at 2");
        Check.answered(x, "made(1): nothing is told of the glued one", x.made(1), 1);
        MirrorTube y = Check.told(PLAIN + ";bit b glued x at 0;after b at 5;after a at 2");
        Check.answered(y, "made(1): the glued one lay elsewhere", y.made(1), 0);
    }

    private static void madeFromAsTold() {
        Check.promise(22, "from where they lay as told");
        MirrorTube x = Check.told(PLAIN + ";after a at 6");
        for (int turns = 0; turns < 3; turns++) {
            Check.answered(x, "made(1)", x.made(1), 0);
            // 6 is two threes forth or two threes back.
            Check.answered(x, "made(2)", x.made(2), 2);
            Check.answered(x, "madeAt(2, 1)", x.madeAt(2, 1), 66);
            Check.answered(x, "fewestMade()", x.fewestMade(), 2);
            x.turn(5);
        }
    }

    private static void madeAtNumbers() {
        Check.promise(23, "NONE: 1 (i, too)");
        int[] rows = {1, 6, 36, 216, 1296};
        for (int n = 0; n <= 4; n++) {
            int turns = n;
            Edge.within(PLAIN, "madeAt(" + n + ", i)", 0, rows[n] - 1, 1, (x, i) -> x.madeAt(turns, i));
        }
        Edge.within(HEAVY + ";after a at 0", "madeAt(1, i) of a heavy one", 0, 1, 1, (x, i) -> x.madeAt(1, i));
        MirrorTube none = Check.told(PLAIN + ";after a at 6");
        Check.refused(none, "madeAt(1, 0) of no row", none.madeAt(1, 0), 1);
        Check.refused(none, "madeAt(0, 0) of no row", none.madeAt(0, 0), 1);
        Edge.needsTube("madeAt(0, 0)", x -> x.madeAt(0, 0));
        Edge.needsTubeFirst("madeAt(n, 0)", 5, (x, n) -> x.madeAt(n, 0));
    }

    private static void madeAtWrongLength() {
        Check.promise(23, "NONE: 2");
        Edge.within(PLAIN, "madeAt(n, 0)", 0, 4, 2, (x, n) -> x.madeAt(n, 0));
        Edge.within(PLAIN, "madeAt(n, i), wrong n and wrong i", 0, 4, 2,
                (x, n) -> x.madeAt(n, n < 0 || n > 4 ? -1 : 0));
    }

    private static void madeAtNone() {
        Check.promise(23, "0 for none");
        MirrorTube x = Check.told(PLAIN);
        Check.answered(x, "madeAt(0, 0)", x.madeAt(0, 0), 0);
        MirrorTube y = Check.told(PLAIN + ";after a at 0");
        Check.answered(y, "madeAt(0, 0)", y.madeAt(0, 0), 0);
    }

    private static void madeAtOrder() {
        Check.promise(23, "the first TURN's first: each and 3 as a digit, the first one's the highest");
        MirrorTube x = Check.told(PLAIN);
        int[] digits = {0, 1, 2, 4, 5, 6};
        for (int i = 0; i < 1296; i++) {
            if (i < 216) {
                int three = 100 * digits[i / 36] + 10 * digits[i / 6 % 6] + digits[i % 6];
                Check.due("madeAt(3, " + i + ")", x.madeAt(3, i), three);
            }
            if (i < 100 || i >= 1196) {
                int four = 1000 * digits[i / 216] + 100 * digits[i / 36 % 6] + 10 * digits[i / 6 % 6] + digits[i % 6];
                Check.due("madeAt(4, " + i + ")", x.madeAt(4, i), four);
            }
            // An object is used for 512 calls at most.
            x = i % 200 == 0 ? Check.told(PLAIN) : x;
        }
        MirrorTube none = Check.told(PLAIN + ";after a at 0");
        int[] back = {6, 15, 24, 42, 51, 60};
        Check.answered(none, "made(2): forth and back", none.made(2), 6);
        for (int i = 0; i < 6; i++) {
            Check.answered(none, "madeAt(2, " + i + ")", none.madeAt(2, i), back[i]);
        }
    }

    private static void fewestMadeBounds() {
        Check.promise(24, "The fewest TURNS (0 .. 4) by which it may have been; -2. NONE: 1 (no TUBE)");
        Edge.needsTube("fewestMade()", x -> x.fewestMade());
        int[] due = {0, 1, 2, 3, 4, -2, -2, -2, 4, 3, 2, 1};
        for (int cell = 0; cell < 12; cell++) {
            MirrorTube x = Check.told(HEAVY + ";after a at " + cell);
            Check.answered(x, "fewestMade() of a heavy one at " + cell + " after", x.fewestMade(), due[cell]);
        }
        MirrorTube free = Check.told(HEAVY);
        Check.answered(free, "fewestMade(): none is told of", free.fewestMade(), 0);
    }

    private static void sameNumbers() {
        Check.promise(25, "rows of n TURNS (0 .. 4). NONE: 1 (no TUBE); 2");
        Edge.within(Edge.FULL, "same(n)", 0, 4, 2, (x, n) -> x.same(n));
        Edge.needsTube("same(0)", x -> x.same(0));
        Edge.needsTubeFirst("same(n)", -1, (x, n) -> x.same(n));
    }

    private static void sameOfNoTurns() {
        Check.promise(25, "behind which all bits lie as NOW: of 0");
        MirrorTube x = Check.told(Edge.FULL);
        Check.answered(x, "same(0)", x.same(0), 1);
        x.turn(5);
        Check.answered(x, "same(0) behind a turn", x.same(0), 1);
        Check.answered(x, "same(1): a click brings the plain ones on", x.same(1), 0);
    }

    private static void sameRound() {
        Check.promise(25, "by -3 to 3 (not 0), round the ring");
        // Of four turns 122 rows come to 0 in all; 3 four times and -3 four times go all round.
        int[] plain = {1, 0, 6, 18, 124};
        // Six clicks bring a light one round: 3 and 3, -3 and -3.
        int[] light = {1, 0, 8};
        // A click by 1 or -1 brings a heavy one nowhere.
        int[] heavy = {1, 2, 12};
        int[] glued = {1, 6, 36, 216, 1296};
        sameAre("plain", plain);
        sameAre("light", light);
        sameAre("heavy", heavy);
        sameAre("glued", glued);
    }

    private static void sameAre(String sort, int[] due) {
        MirrorTube x = Edge.alone(sort, 11);
        for (int n = 0; n < due.length; n++) {
            Check.answered(x, "same(" + n + "), " + sort, x.same(n), due[n]);
        }
    }
}
