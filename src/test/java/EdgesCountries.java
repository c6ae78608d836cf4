/** Boundary cases of promises 26 to 32: what the countries show, which one it is. */
final class EdgesCountries {
    // In country 0 the cells 0 to 5 show these.
    private static final String SIX = "tube rolls 0;bit a glued u at 0;bit b glued v at 1;bit c glued w at 2;"
            + "bit d glued x at 3;bit e glued y at 4;bit f glued z at 5";

    private EdgesCountries() {
    }

    static void run() {
        joinsNumbers();
        joinsAtTheMirrors();
        joinsSeen();
        alikeNumbers();
        alikeAllAndBothNone();
        alikeNotByColour();
        whichAllAndNone();
        whichAsAllLiesNow();
        whichByWhatIsSeen();
        surelyOnlyOne();
        surelyMoreOrNone();
        lookNoneLeft();
        lookFirstSuch();
        lookLast();
        lookAtNone();
        lookPartsNothing();
        lookLeavesBounds();
        judgeNumbers();
        judgeFirstAndLast();
        judgeNone();
    }

    private static void joinsNumbers() {
        Check.promise(26, "NONE: 1 (no TUBE); 2");
        Edge.within(Edge.FULL, "joins(country)", 0, 5, 2, (x, country) -> x.joins(country));
        Edge.needsTube("joins(0)", x -> x.joins(0));
        Edge.needsTubeFirst("joins(country)", 6, (x, country) -> x.joins(country));
    }

    private static void joinsAtTheMirrors() {
        Check.promise(26, "at the mirrors of a country (cells 0, 11)");
        for (int at = 0; at < 12; at++) {
            MirrorTube x = Edge.alone(Edge.SORTS[at % 4], at);
            for (int country = 0; country < 6; country++) {
                boolean there = EdgesNow.SHOWS[country][0] == at || EdgesNow.SHOWS[country][11] == at;
                Check.answered(x, "joins(" + country + ") of one at " + at, x.joins(country), there ? 1 : 0);
            }
        }
    }

    private static void joinsSeen() {
        Check.promise(26, "Bits SEEN");
        MirrorTube x = Check.told("tube rolls 0;bit a light x at 0;bit b plain x at 0;bit c light x at 11;"
                + "bit d light x at 11");
        Check.answered(x, "joins(0): those under are not seen", x.joins(0), 6);
        MirrorTube y = Check.told("tube rolls 0;bit a light x at 1;bit b light x at 1;bit c light x at 1;"
                + "bit d light x at 1;bit e light x at 0;bit f light x at 11");
        Check.answered(y, "joins(0): the last two", y.joins(0), 48);
    }

    private static void alikeNumbers() {
        Check.promise(27, "NONE: 1 (no TUBE); 2");
        Edge.within(Edge.FULL, "alike(country, 0)", 0, 5, 2, (x, country) -> x.alike(country, 0));
        Edge.within(Edge.FULL, "alike(0, other)", 0, 5, 2, (x, other) -> x.alike(0, other));
        Edge.needsTube("alike(0, 0)", x -> x.alike(0, 0));
        Edge.needsTubeFirst("alike(country, 0)", 6, (x, country) -> x.alike(country, 0));
        Edge.needsTubeFirst("alike(0, other)", -1, (x, other) -> x.alike(0, other));
    }

    private static void alikeAllAndBothNone() {
        Check.promise(27, "In how many cells (0 .. 11) two countries show the same bit, or both none");
        MirrorTube x = Check.told(Edge.FULL);
        MirrorTube one = Edge.alone("plain", 0);
        for (int country = 0; country < 6; country++) {
            Check.answered(x, "alike(" + country + ", itself)", x.alike(country, country), 12);
            for (int other = 0; other < 6; other++) {
                // No two countries show a cell of the tube in the same cell.
                Check.answered(one, "alike(" + country + ", " + other + ") of one bit", one.alike(country, other),
                        country == other ? 12 : 10);
            }
        }
        // Country 0 shows the six in 0 to 5, country 2 in 4 to 9: both none in 10 and 11.
        MirrorTube six = Check.told(SIX);
        Check.answered(six, "alike(0, 2)", six.alike(0, 2), 2);
        // Country 3 shows them in 5 to 0: no two alike there, both none in 6 to 11.
        Check.answered(six, "alike(0, 3)", six.alike(0, 3), 6);
    }

    private static void alikeNotByColour() {
        Check.promise(27, "the same bit");
        MirrorTube x = Check.told("tube rolls 0;bit a plain x at 0;bit b plain x at 1");
        // Country 1 shows b in 0 and a in 1.
        Check.answered(x, "alike(0, 1): one colour, other bits", x.alike(0, 1), 10);
    }

    private static void whichAllAndNone() {
        Check.promise(28, "WHICH, as bits. NONE: 1 (no TUBE)");
        Edge.needsTube("which()", x -> x.which());
        MirrorTube x = Check.told(SIX);
        Check.answered(x, "which(): nothing was met", x.which(), 63);
        MirrorTube none = Check.told(SIX + ";met 0 red");
        Check.answered(none, "which(): no bit of that colour", none.which(), 0);
        MirrorTube six = Check.told(SIX + ";met 0 u;met 1 v;met 2 w;met 3 x;met 4 y;met 5 z");
        Check.answered(six, "which(): all six are so in country 0", six.which(), 1);
        MirrorTube five = Check.told(SIX + ";met 0 u;met 1 v;met 2 w;met 3 x;met 4 y;met 5 y");
        Check.answered(five, "which(): the last is not so", five.which(), 0);
        MirrorTube empty = Check.told(SIX + ";met 11 u");
        // Cell 11 shows the tube's cells 11, 2, 7, 6, 3, 10.
        Check.answered(empty, "which(): nothing, or another colour, is seen there", empty.which(), 0);
    }

    private static void whichAsAllLiesNow() {
        Check.promise(28, "as all lies NOW");
        MirrorTube x = Check.told("tube rolls 0;bit a plain x at 0;met 0 x");
        // Cell 0 shows the tube's cells 0, 1, 8, 5, 4, 9 in the countries 0 to 5.
        int[] due = {1, 2, 0, 0, 16, 8, 0, 0, 4, 32, 0, 0};
        for (int cell = 0; cell < 12; cell++) {
            Check.answered(x, "which(), in cell " + cell, x.which(), due[cell]);
            x.turn(1);
        }
    }

    private static void whichByWhatIsSeen() {
        Check.promise(28, "shows a bit of that COLOUR");
        MirrorTube under = Check.told("tube rolls 0;bit a light u at 0;bit b plain v at 0;met 0 u");
        Check.answered(under, "which(): it lies under another", under.which(), 0);
        MirrorTube top = Check.told("tube rolls 0;bit a light u at 0;bit b plain v at 0;met 0 v");
        Check.answered(top, "which(): it is on top", top.which(), 1);
    }

    private static void surelyOnlyOne() {
        Check.promise(29, "The only one. NONE: 1 (no TUBE)");
        Edge.needsTube("surely()", x -> x.surely());
        for (int country = 0; country < 6; country++) {
            MirrorTube x = Check.told("tube rolls 0;bit a plain x at " + EdgesNow.SHOWS[country][0] + ";met 0 x");
            Check.answered(x, "surely(), country " + country, x.surely(), country);
        }
    }

    private static void surelyMoreOrNone() {
        Check.promise(29, "-2 more or none");
        MirrorTube all = Edge.alone("plain", 0);
        Check.answered(all, "surely(): six", all.surely(), -2);
        MirrorTube two = Check.told("tube rolls 0;bit a plain x at 0;bit b plain x at 9;met 0 x");
        Check.answered(two, "surely(): two, 0 and 5", two.surely(), -2);
        MirrorTube none = Check.told("tube rolls 0;bit a plain x at 2;met 0 x");
        Check.answered(none, "surely(): none", none.surely(), -2);
    }

    private static void lookNoneLeft() {
        Check.promise(30, "-2 none is left. NONE: 1 (no TUBE)");
        Edge.needsTube("look()", x -> x.look());
        MirrorTube none = Check.told("tube rolls 0;bit a plain x at 2;met 0 x");
        Check.answered(none, "look()", none.look(), -2);
        none.turn(-2);
        Check.answered(none, "look(): one is left", none.look(), 0);
    }

    private static void lookFirstSuch() {
        Check.promise(30, "the first such");
        MirrorTube x = Edge.alone("plain", 2);
        Check.answered(x, "look(): cells 2, 3, 6, 7, 10, 11 leave 5 each", x.look(), 2);
        MirrorTube y = Edge.alone("plain", 0);
        Check.answered(y, "look(): cells 0, 1, 4, 5, 8, 9 leave 5 each", y.look(), 0);
    }

    private static void lookLast() {
        Check.promise(30, "the cell by which at most fewest of these are left");
        // Left are 1, 2, 3: cell 11 shows them the tube's cells 2 (u), 7 (v), 6 (none); by all others two are alike.
        MirrorTube x = Check.told("tube rolls 0;bit a glued u at 11;bit b heavy v at 7;bit c heavy u at 2;"
                + "bit d plain u at 10;met 3 u");
        Check.answered(x, "which()", x.which(), 14);
        Check.answered(x, "look(): the last cell", x.look(), 11);
        Check.answered(x, "lookLeaves()", x.lookLeaves(), 1);
    }

    private static void lookAtNone() {
        Check.promise(30, "the COLOUR SEEN there (or none) being told");
        // Left are 0 and 1; cell 0 shows cell 0 (u) and 1 (none), so "none" parts them.
        MirrorTube x = Check.told("tube rolls 0;bit a glued u at 0;bit b glued w at 3;bit c glued w at 10;met 3 w");
        Check.answered(x, "which()", x.which(), 3);
        Check.answered(x, "look()", x.look(), 0);
        Check.answered(x, "lookLeaves()", x.lookLeaves(), 1);
        // Cells 0 and 1 show one of the two u in country 0, the other in country 1.
        MirrorTube y = Check.told("tube rolls 0;bit a glued u at 0;bit d glued u at 1;bit b glued w at 3;"
                + "bit c glued w at 10;met 3 w");
        Check.answered(y, "lookLeaves(): colours part them, not bits", y.lookLeaves(), 2);
        Check.answered(y, "look()", y.look(), 0);
    }

    private static void lookPartsNothing() {
        Check.promise(30, "at most fewest of these are left: all six, whichever the cell");
        // Each cell shows in all countries one of these, all of a colour, or in all of them nothing.
        MirrorTube x = Check.told("tube rolls 0;bit a plain u at 0;bit b plain u at 1;bit c plain u at 4;"
                + "bit d plain u at 5;bit e plain u at 8;bit f plain u at 9;met 0 u;met 9 u");
        Check.answered(x, "which()", x.which(), 63);
        Check.answered(x, "look(): the first cell", x.look(), 0);
        Check.answered(x, "lookLeaves(): all six", x.lookLeaves(), 6);
    }

    private static void lookLeavesBounds() {
        Check.promise(31, "How many are left at most then; -2 likewise. NONE: 1 (no TUBE)");
        Edge.needsTube("lookLeaves()", x -> x.lookLeaves());
        MirrorTube none = Check.told("tube rolls 0;bit a plain x at 2;met 0 x");
        Check.answered(none, "lookLeaves(): none is left", none.lookLeaves(), -2);
        MirrorTube one = Check.told("tube rolls 0;bit a plain x at 0;met 0 x");
        Check.answered(one, "lookLeaves(): one is left", one.lookLeaves(), 1);
        MirrorTube most = Edge.alone("plain", 0);
        Check.answered(most, "lookLeaves(): five of six, where nothing is seen", most.lookLeaves(), 5);
        // In the six cells of the tube that cell 0 shows lie six colours.
        MirrorTube apart = Check.told("tube rolls 0;bit a glued u at 0;bit b glued v at 1;bit c glued w at 8;"
                + "bit d glued x at 5;bit e glued y at 4;bit f glued z at 9");
        Check.answered(apart, "lookLeaves(): all six apart", apart.lookLeaves(), 1);
    }

    private static void judgeNumbers() {
        Check.promise(32, "NONE: 1 (no TUBE); 2");
        Edge.within(Edge.FULL, "judge(country)", 0, 5, 2, (x, country) -> x.judge(country));
        Edge.needsTube("judge(0)", x -> x.judge(0));
        Edge.needsTubeFirst("judge(country)", -1, (x, country) -> x.judge(country));
    }

    private static void judgeFirstAndLast() {
        Check.promise(32, "The first that was met, as told, that isn't so in a country");
        String[] colours = {"u", "v", "w", "x", "y", "z"};
        for (int wrong = 0; wrong < 6; wrong++) {
            StringBuilder text = new StringBuilder(SIX);
            for (int cell = 5; cell >= 0; cell--) {
                text.append(";met ").append(cell).append(' ').append(cell <= 5 - wrong ? "other" : colours[cell]);
            }
            MirrorTube x = Check.told(text.toString());
            Check.answered(x, "judge(0), " + wrong + " so", x.judge(0), wrong);
        }
    }

    private static void judgeNone() {
        Check.promise(32, "-2");
        MirrorTube x = Check.told(SIX);
        for (int country = 0; country < 6; country++) {
            Check.answered(x, "judge(" + country + "): nothing was met", x.judge(country), -2);
        }
        MirrorTube six = Check.told(SIX + ";met 0 u;met 1 v;met 2 w;met 3 x;met 4 y;met 5 z");
        Check.answered(six, "judge(0): all six are so", six.judge(0), -2);
        Check.answered(six, "judge(3): none is", six.judge(3), 0);
    }
}
