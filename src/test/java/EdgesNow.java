/** Boundary cases of promises 6 to 16: what lies where now, what is seen of it. */
final class EdgesNow {
    /** The tube's cell that each cell of each country shows, by the words of the document. */
    static final int[][] SHOWS = {
        {0, 1, 2, 3, 4, 5, 6, 7, 8, 9, 10, 11},
        {1, 0, 11, 10, 9, 8, 7, 6, 5, 4, 3, 2},
        {8, 9, 10, 11, 0, 1, 2, 3, 4, 5, 6, 7},
        {5, 4, 3, 2, 1, 0, 11, 10, 9, 8, 7, 6},
        {4, 5, 6, 7, 8, 9, 10, 11, 0, 1, 2, 3},
        {9, 8, 7, 6, 5, 4, 3, 2, 1, 0, 11, 10}};

    private static final String PILE = "tube rolls 0;bit a light u at 0;bit b light v at 0;bit c light w at 0;"
            + "bit d light x at 0;bit e light y at 0;bit f light z at 0";

    // A cell on, and a cell back, each of the others would lie otherwise.
    private static final String BESIDE = "tube rolls 0;bit a light x at 0;bit b plain x at 0;bit c heavy x at 0;"
            + "bit d glued x at 1";

    private EdgesNow() {
    }

    static void run() {
        bitNumbers();
        bitWhats();
        bitOnTop();
        bitNotWanted();
        topNumbers();
        topOfNothing();
        topOfWeights();
        topOfLikeOnes();
        stackNumbers();
        stackEmptyAndFull();
        seenNumbers();
        seenByTheRing();
        liesNumbers();
        liesUnder();
        underNoneAndAll();
        untilNumbers();
        untilFirst();
        untilNever();
        behindNumbers();
        behindRound();
        behindHalves();
        topsBehindNumbers();
        topsBehindFewestAndMost();
        twinsNone();
        twinsFirst();
        mostTopsNoTube();
        mostTopsFirst();
        mostTopsAtTheBounds();
    }

    private static void bitNumbers() {
        Check.promise(6, "Of a bit: NONE: 1");
        Edge.within(Edge.FULL, "bit(b, 0)", 0, 5, 1, (x, b) -> x.bit(b, 0));
        Edge.within("tube rolls 0;bit a light x at 0", "bit(b, 2)", 0, 0, 1, (x, b) -> x.bit(b, 2));
        Edge.needsTube("bit(0, 0)", x -> x.bit(0, 0));
    }

    private static void bitWhats() {
        Check.promise(6, "0 SORT .. 6 that of after: NONE: 1");
        Edge.within(Edge.FULL, "bit(0, what)", 0, 6, 1, (x, what) -> x.bit(0, what));
        Edge.within(Edge.FULL, "bit(5, what)", 0, 6, 1, (x, what) -> x.bit(5, what));
    }

    private static void bitOnTop() {
        Check.promise(6, "3 1 if it is on TOP");
        MirrorTube x = Check.told(BESIDE);
        int[] due = {0, 0, 1, 1};
        for (int b = 0; b < 4; b++) {
            Check.answered(x, "bit(" + b + ", 3)", x.bit(b, 3), due[b]);
        }
    }

    private static void bitNotWanted() {
        Check.promise(6, "5 the cell where it is wanted (-2), 6 that of after (-2)");
        MirrorTube x = Check.told("tube rolls 0;bit a light x at 5;bit b light x at 5;want a at 0;after b at 0");
        Check.answered(x, "bit(0, 5): cell 0 is a cell", x.bit(0, 5), 0);
        Check.answered(x, "bit(0, 6)", x.bit(0, 6), -2);
        Check.answered(x, "bit(1, 5)", x.bit(1, 5), -2);
        Check.answered(x, "bit(1, 6): cell 0 is a cell", x.bit(1, 6), 0);
    }

    private static void topNumbers() {
        Check.promise(7, "NONE: 1 (no TUBE); 2");
        Edge.within(Edge.FULL, "top(cell)", 0, 11, 2, (x, cell) -> x.top(cell));
        Edge.needsTube("top(0)", x -> x.top(0));
        Edge.needsTubeFirst("top(cell)", 12, (x, cell) -> x.top(cell));
    }

    private static void topOfNothing() {
        Check.promise(7, "On TOP in a cell of the tube; -2 nothing");
        for (int at = 0; at < 12; at++) {
            MirrorTube x = Edge.alone("plain", at);
            for (int cell = 0; cell < 12; cell++) {
                Check.answered(x, "top(" + cell + ") of one at " + at, x.top(cell), cell == at ? 0 : -2);
            }
        }
    }

    private static void topOfWeights() {
        Check.promise(7, "On TOP in a cell: of all bits there the one of greatest WEIGHT");
        for (int one = 0; one < 4; one++) {
            for (int other = 0; other < 4; other++) {
                String pair = "bit a " + Edge.SORTS[one] + " x at 11;bit b " + Edge.SORTS[other] + " x at 11";
                MirrorTube x = Check.told("tube rolls 0;" + pair);
                Check.answered(x, "top(11) of " + pair, x.top(11), other > one ? 1 : 0);
            }
        }
    }

    private static void topOfLikeOnes() {
        Check.promise(7, "of like ones the first; the others lie under it");
        MirrorTube x = Check.told(PILE);
        Check.answered(x, "top(0)", x.top(0), 0);
        Check.answered(x, "bit(0, 3)", x.bit(0, 3), 1);
        for (int b = 1; b < 6; b++) {
            Check.answered(x, "bit(" + b + ", 3)", x.bit(b, 3), 0);
        }
    }

    private static void stackNumbers() {
        Check.promise(8, "NONE: 1 (no TUBE); 2");
        Edge.within(Edge.FULL, "stack(cell)", 0, 11, 2, (x, cell) -> x.stack(cell));
        Edge.needsTube("stack(0)", x -> x.stack(0));
        Edge.needsTubeFirst("stack(cell)", -1, (x, cell) -> x.stack(cell));
    }

    private static void stackEmptyAndFull() {
        Check.promise(8, "All bits in a cell, as bits");
        MirrorTube x = Check.told(PILE);
        Check.answered(x, "stack(0): all six", x.stack(0), 63);
        for (int cell = 1; cell < 12; cell++) {
            Check.answered(x, "stack(" + cell + "): none", x.stack(cell), 0);
        }
        x.turn(-1);
        Check.answered(x, "stack(10): all six", x.stack(10), 63);
        Check.answered(x, "stack(0): none", x.stack(0), 0);
        MirrorTube y = Check.told(BESIDE);
        Check.answered(y, "stack(0): three sorts", y.stack(0), 7);
        Check.answered(y, "stack(1)", y.stack(1), 8);
    }

    private static void seenNumbers() {
        Check.promise(9, "NONE: 1 (no TUBE); 2");
        Edge.within(Edge.FULL, "seen(country, 0)", 0, 5, 2, (x, country) -> x.seen(country, 0));
        Edge.within(Edge.FULL, "seen(country, 11)", 0, 5, 2, (x, country) -> x.seen(country, 11));
        Edge.within(Edge.FULL, "seen(0, cell)", 0, 11, 2, (x, cell) -> x.seen(0, cell));
        Edge.within(Edge.FULL, "seen(5, cell)", 0, 11, 2, (x, cell) -> x.seen(5, cell));
        Edge.needsTube("seen(0, 0)", x -> x.seen(0, 0));
        Edge.needsTubeFirst("seen(country, 0)", 6, (x, country) -> x.seen(country, 0));
        Edge.needsTubeFirst("seen(0, cell)", 12, (x, cell) -> x.seen(0, cell));
    }

    private static void seenByTheRing() {
        Check.promise(9, "in cell (c - 2 j), in cell (11 - c + 2 j), each by the ring (0 .. 11); -2");
        for (int at = 0; at < 12; at++) {
            MirrorTube x = Edge.alone(Edge.SORTS[at % 4], at);
            for (int country = 0; country < 6; country++) {
                for (int cell = 0; cell < 12; cell++) {
                    Check.answered(x, "seen(" + country + ", " + cell + ") of one at " + at, x.seen(country, cell),
                            SHOWS[country][cell] == at ? 0 : -2);
                }
            }
        }
    }

    private static void liesNumbers() {
        Check.promise(10, "NONE: 1; 2");
        Edge.within(Edge.FULL, "lies(b, 0)", 0, 5, 1, (x, b) -> x.lies(b, 0));
        Edge.within(Edge.FULL, "lies(0, country)", 0, 5, 2, (x, country) -> x.lies(0, country));
        Edge.needsTube("lies(0, 0)", x -> x.lies(0, 0));
        Edge.needsTubeFirst("lies(0, country)", 6, (x, country) -> x.lies(0, country));
        MirrorTube x = Check.told(PILE);
        Check.refused(x, "lies(6, 6): 1 is told first", x.lies(6, 6), 1);
        Check.refused(x, "lies(-1, -1): 1 is told first", x.lies(-1, -1), 1);
    }

    private static void liesUnder() {
        Check.promise(10, "(whether it is SEEN or not)");
        for (int at = 0; at < 12; at++) {
            MirrorTube x = Check.told("tube rolls 0;bit g glued x at " + at
                    + ";bit a " + Edge.SORTS[at % 4] + " x at " + at);
            for (int country = 0; country < 6; country++) {
                for (int cell = 0; cell < 12; cell++) {
                    if (SHOWS[country][cell] == at) {
                        Check.answered(x, "lies(0, " + country + ") at " + at, x.lies(0, country), cell);
                        Check.answered(x, "lies(1, " + country + ") at " + at, x.lies(1, country), cell);
                    }
                }
            }
        }
    }

    private static void underNoneAndAll() {
        Check.promise(11, "Bits that lie under others, as bits. NONE: 1 (no TUBE)");
        Edge.needsTube("under()", x -> x.under());
        MirrorTube one = Edge.alone("light", 0);
        Check.answered(one, "under() of one", one.under(), 0);
        MirrorTube x = Check.told(PILE);
        Check.answered(x, "under() of six in a cell", x.under(), 62);
        MirrorTube y = Check.told("tube rolls 0;bit a light x at 0;bit b light x at 1;bit c light x at 2;"
                + "bit d light x at 3;bit e light x at 4;bit f light x at 11");
        Check.answered(y, "under() of six in six cells", y.under(), 0);
        MirrorTube z = Check.told(PILE.replace("bit f light", "bit f plain"));
        Check.answered(z, "under() of six, the last one on top", z.under(), 31);
        MirrorTube beside = Check.told(BESIDE);
        Check.answered(beside, "under() of three sorts", beside.under(), 3);
    }

    private static void untilNumbers() {
        Check.promise(12, "NONE: 1");
        Edge.within(Edge.FULL, "until(b)", 0, 5, 1, (x, b) -> x.until(b));
        Edge.needsTube("until(0)", x -> x.until(0));
    }

    private static void untilFirst() {
        Check.promise(12, "Behind how many TURNS by 1 (0 .. 24) a bit is on TOP first");
        MirrorTube now = Edge.alone("light", 11);
        Check.answered(now, "until(0): at once", now.until(0), 0);
        // Five glued ones lie in the cells that it comes to: no more can.
        MirrorTube light = Check.told("tube rolls 0;bit a light x at 8;bit b glued x at 8;bit c glued x at 10;"
                + "bit d glued x at 0;bit e glued x at 2;bit f glued x at 4");
        Check.answered(light, "until(0) by twos, round the ring", light.until(0), 5);
        MirrorTube plain = Check.told("tube rolls 0;bit a plain x at 9;bit b glued x at 9;bit c glued x at 10;"
                + "bit d heavy x at 11;bit e glued x at 0;bit f heavy x at 1");
        Check.answered(plain, "until(0) by ones, round the ring", plain.until(0), 5);
        Check.due("bit(0, 2): nothing was turned", plain.bit(0, 2), 9);
    }

    private static void untilNever() {
        Check.promise(12, "-2 none");
        MirrorTube like = Check.told("tube rolls 0;bit a light x at 0;bit b light x at 0");
        Check.answered(like, "until(1): always under the first", like.until(1), -2);
        MirrorTube heavy = Check.told("tube rolls 0;bit a heavy x at 0;bit b glued x at 0");
        Check.answered(heavy, "until(0): half a click is none", heavy.until(0), -2);
    }

    private static void behindNumbers() {
        Check.promise(13, "a TURN (-6 .. 6). NONE: 1; 2");
        Edge.within(Edge.FULL, "behind(b, 6)", 0, 5, 1, (x, b) -> x.behind(b, 6));
        Edge.within(Edge.FULL, "behind(0, clicks)", -6, 6, 2, (x, clicks) -> x.behind(0, clicks));
        Edge.within(Edge.FULL, "behind(5, clicks)", -6, 6, 2, (x, clicks) -> x.behind(5, clicks));
        Edge.needsTube("behind(0, 0)", x -> x.behind(0, 0));
        Edge.needsTubeFirst("behind(0, clicks)", 7, (x, clicks) -> x.behind(0, clicks));
        MirrorTube x = Check.told(PILE);
        Check.refused(x, "behind(6, 7): 1 is told first", x.behind(6, 7), 1);
    }

    private static void behindRound() {
        Check.promise(13, "The cells lie in a ring");
        goes("light", 11, new int[] {11, 1, 3, 5, 7, 9, 11, 1, 3, 5, 7, 9, 11});
        goes("light", 0, new int[] {0, 2, 4, 6, 8, 10, 0, 2, 4, 6, 8, 10, 0});
        goes("plain", 11, new int[] {5, 6, 7, 8, 9, 10, 11, 0, 1, 2, 3, 4, 5});
        goes("plain", 0, new int[] {6, 7, 8, 9, 10, 11, 0, 1, 2, 3, 4, 5, 6});
        goes("glued", 11, new int[] {11, 11, 11, 11, 11, 11, 11, 11, 11, 11, 11, 11, 11});
        goes("glued", 0, new int[13]);
    }

    private static void behindHalves() {
        Check.promise(13, "each heavy one by half as many (towards 0)");
        goes("heavy", 11, new int[] {8, 9, 9, 10, 10, 11, 11, 11, 0, 0, 1, 1, 2});
        goes("heavy", 0, new int[] {9, 10, 10, 11, 11, 0, 0, 0, 1, 1, 2, 2, 3});
    }

    private static void goes(String sort, int cell, int[] due) {
        MirrorTube x = Edge.alone(sort, cell);
        for (int clicks = -6; clicks <= 6; clicks++) {
            String call = "behind(0, " + clicks + "), " + sort + " at " + cell;
            Check.answered(x, call, x.behind(0, clicks), due[clicks + 6]);
        }
    }

    private static void topsBehindNumbers() {
        Check.promise(14, "a TURN: NONE: 1 (no TUBE); 2");
        Edge.within(Edge.FULL, "topsBehind(clicks)", -6, 6, 2, (x, clicks) -> x.topsBehind(clicks));
        Edge.needsTube("topsBehind(0)", x -> x.topsBehind(0));
        Edge.needsTubeFirst("topsBehind(clicks)", -7, (x, clicks) -> x.topsBehind(clicks));
    }

    private static void topsBehindFewestAndMost() {
        Check.promise(14, "How many are on TOP behind a TURN");
        MirrorTube one = Check.told(PILE);
        MirrorTube all = Check.told("tube rolls 0;bit a glued x at 0;bit b glued x at 1;bit c glued x at 2;"
                + "bit d glued x at 3;bit e glued x at 4;bit f glued x at 11");
        for (int clicks = -6; clicks <= 6; clicks++) {
            Check.answered(one, "topsBehind(" + clicks + ") of six in a cell", one.topsBehind(clicks), 1);
            Check.answered(all, "topsBehind(" + clicks + ") of six in six", all.topsBehind(clicks), 6);
        }
    }

    private static void twinsNone() {
        Check.promise(15, "-2 there are none. NONE: 1 (no TUBE)");
        Edge.needsTube("twins()", x -> x.twins());
        MirrorTube one = Edge.alone("light", 0);
        Check.answered(one, "twins() of one bit", one.twins(), -2);
        MirrorTube six = Check.told(PILE);
        Check.answered(six, "twins() of six colours", six.twins(), -2);
        MirrorTube near = Check.told("tube rolls 0;bit a light aaaaaaaa at 0;bit b light aaaaaaab at 0;"
                + "bit c light aaaaaaa at 0");
        Check.answered(near, "twins() of colours nearly alike", near.twins(), -2);
    }

    private static void twinsFirst() {
        Check.promise(15, "Two bits of one COLOUR, the first two: 10 times the lesser and the other one");
        MirrorTube last = Check.told(PILE.replace(" y at", " z at"));
        Check.answered(last, "twins(): the last two", last.twins(), 45);
        MirrorTube all = Check.told("tube rolls 0;bit a light x at 0;bit b light x at 1;bit c light x at 2");
        Check.answered(all, "twins() of three of a colour", all.twins(), 1);
        MirrorTube ends = Check.told(PILE.replace(" z at", " u at"));
        Check.answered(ends, "twins(): the first and the last", ends.twins(), 5);
    }

    private static void mostTopsNoTube() {
        Check.promise(16, "NONE: 1 (no TUBE)");
        Edge.needsTube("mostTops()", x -> x.mostTops());
    }

    private static void mostTopsFirst() {
        Check.promise(16, "the first such");
        MirrorTube one = Edge.alone("plain", 0);
        Check.answered(one, "mostTops(): all alike", one.mostTops(), 0);
        MirrorTube six = Check.told(PILE);
        Check.answered(six, "mostTops(): all alike, only one on top", six.mostTops(), 0);
        MirrorTube two = Check.told("tube rolls 0;bit a plain x at 0;bit b glued x at 6");
        Check.answered(two, "mostTops(): by -6 alone it lies under", two.mostTops(), 1);
    }

    private static void mostTopsAtTheBounds() {
        Check.promise(16, "The TURN (-6 .. 6) behind which most are on TOP, and 6");
        // By every turn but 6 a heavy one comes to lie with the glued or the plain one.
        MirrorTube last = Check.told("tube rolls 0;bit a glued x at 6;bit b plain x at 7;bit c heavy x at 4;"
                + "bit d heavy x at 5;bit e heavy x at 6");
        Check.answered(last, "mostTops(): by 6 alone", last.mostTops(), 12);
        // By each turn of -6 to -1 two come to lie in a cell.
        MirrorTube now = Check.told("tube rolls 0;bit a plain x at 5;bit b heavy x at 4;bit c glued x at 1;"
                + "bit d plain x at 6");
        Check.answered(now, "mostTops(): 0, too", now.mostTops(), 6);
    }
}
