/** Boundary cases of promises 36 to 41: people, their ways through the mirrors. */
final class EdgesPeople {
    // The glued one is seen in 0/0, 1/1, 2/4, 3/5, 4/8 and 5/9.
    private static final String GLUED = "tube rolls 0;bit g glued x at 0";

    private EdgesPeople() {
    }

    static void run() {
        personNumbers();
        personWhats();
        personSteps();
        personsApart();
        wayNumbers();
        wayToWhereHeIs();
        wayThroughMirrors();
        wayByWeights();
        wayUpNumbers();
        wayUpWhereHeIs();
        wayUpOfLikeOnes();
        nearestNumbers();
        nearestNone();
        nearestThere();
        farthestNumbers();
        farthestFirst();
        ringNoTube();
        ringFromWherever();
    }

    private static MirrorTube person(String bits, int country, int cell) {
        return Check.told(bits + ";person p in " + country + " at " + cell);
    }

    private static void personNumbers() {
        Check.promise(36, "Of a person: NONE: 1");
        Edge.within(Edge.FULL, "person(p, 0)", 0, 3, 1, (x, p) -> x.person(p, 0));
        Edge.within(GLUED + ";person p in 0 at 0", "person(p, 2)", 0, 0, 1, (x, p) -> x.person(p, 2));
        Edge.needsTube("person(0, 0)", x -> x.person(0, 0));
        MirrorTube nobody = Check.told(GLUED);
        Check.refused(nobody, "person(0, 0): there is nobody", nobody.person(0, 0), 1);
    }

    private static void personWhats() {
        Check.promise(36, "0 the country, 1 the cell NOW, 2 steps so far: NONE: 1");
        Edge.within(Edge.FULL, "person(0, what)", 0, 2, 1, (x, what) -> x.person(0, what));
        Edge.within(Edge.FULL, "person(3, what)", 0, 2, 1, (x, what) -> x.person(3, what));
    }

    private static void personSteps() {
        Check.promise(36, "2 steps so far (each as long as it took)");
        MirrorTube x = person(GLUED, 0, 1);
        Check.answered(x, "person(0, 2): none", x.person(0, 2), 0);
        x.go(0, false);
        Check.answered(x, "person(0, 2): into the glued one's cell", x.person(0, 2), 5);
        x.go(0, true);
        Check.answered(x, "person(0, 2): and out of it", x.person(0, 2), 6);
        x.turn(6);
        Check.answered(x, "person(0, 2): a turn is no step", x.person(0, 2), 6);
    }

    private static void personsApart() {
        Check.promise(36, "Of a person: of all four, each his own");
        MirrorTube x = Check.told(GLUED + ";bit b light x at 0;bit c light x at 0;bit d light x at 0;"
                + "bit e light x at 0;bit f light x at 0;person p in 0 at 2;person q in 1 at 2;"
                + "person r in 3 at 7;person s in 5 at 11");
        // Up to 0/3 and 0/4; to 1/1; to 3/6 and 3/5; to 5/10 and 5/9: 1/1, 3/5 and 5/9 show the glued one.
        for (int p : new int[] {0, 0, 1, 2, 2, 3, 3}) {
            x.go(p, true);
        }
        int[] cells = {4, 1, 5, 9};
        int[] steps = {2, 5, 6, 6};
        for (int p = 0; p < 4; p++) {
            Check.answered(x, "person(" + p + ", 1)", x.person(p, 1), cells[p]);
            Check.answered(x, "person(" + p + ", 2)", x.person(p, 2), steps[p]);
        }
        for (int b = 0; b < 6; b++) {
            Check.due("bit(" + b + ", 2) stays", x.bit(b, 2), 0);
        }
        Check.due("size(7) stays", x.size(7), 0);
    }

    private static void wayNumbers() {
        Check.promise(37, "NONE: 1; 2");
        Edge.within(Edge.FULL, "way(p, 0, 0)", 0, 3, 1, (x, p) -> x.way(p, 0, 0));
        Edge.within(Edge.FULL, "way(0, country, 0)", 0, 5, 2, (x, country) -> x.way(0, country, 0));
        Edge.within(Edge.FULL, "way(0, 0, cell)", 0, 11, 2, (x, cell) -> x.way(0, 0, cell));
        Edge.within(Edge.FULL, "way(3, 5, cell)", 0, 11, 2, (x, cell) -> x.way(3, 5, cell));
        Edge.needsTube("way(0, 0, 0)", x -> x.way(0, 0, 0));
        Edge.needsTubeFirst("way(0, country, 0)", 6, (x, country) -> x.way(0, country, 0));
        MirrorTube x = Check.told(Edge.FULL);
        Check.refused(x, "way(4, 6, 12): 1 is told first", x.way(4, 6, 12), 1);
        Check.refused(x, "way(-1, 0, 12): 1 is told first", x.way(-1, 0, 12), 1);
    }

    private static void wayToWhereHeIs() {
        Check.promise(37, "WAY to a country's cell: the one where he is");
        for (int country = 0; country < 6; country++) {
            for (int cell = 0; cell < 12; cell += 11) {
                MirrorTube x = person(GLUED, country, cell);
                Check.answered(x, "way() to " + country + "/" + cell, x.way(0, country, cell), 0);
            }
        }
    }

    private static void wayThroughMirrors() {
        Check.promise(37, "from cell 11 of countries 0, 2, 4 to cell 11 of the next country and back, "
                + "from cell 0 of countries 1, 3, 5 to cell 0 of the next one (of 5: 0) and back");
        // The bit is seen at cells 3, 10, 7, 2, 11 and 6 of the countries: at one mirror alone.
        String bits = "tube rolls 0;bit g glued x at 3";
        int[][] mirrors = {{0, 1, 11}, {1, 2, 0}, {2, 3, 11}, {3, 4, 0}, {4, 5, 11}, {5, 0, 0}};
        for (int[] m : mirrors) {
            MirrorTube up = person(bits, m[0], m[2]);
            Check.answered(up, "way() from " + m[0] + " to " + m[1], up.way(0, m[1], m[2]), 1);
            Check.due("wayUp() from " + m[0] + " to " + m[1], up.wayUp(0, m[1], m[2]), 1);
            MirrorTube down = person(bits, m[1], m[2]);
            Check.answered(down, "way() from " + m[1] + " to " + m[0], down.way(0, m[0], m[2]), m[0] == 4 ? 5 : 1);
            Check.due("wayUp() from " + m[1] + " to " + m[0], down.wayUp(0, m[0], m[2]), 0);
        }
        // No ring in a country: from 0/0 to 0/11 all cells between are gone through.
        MirrorTube across = person("tube rolls 0;bit l light x at 3", 0, 0);
        Check.answered(across, "way() from 0/0 to 0/11", across.way(0, 0, 11), 11 + 1);
        Check.due("wayUp() from 0/0 to 0/11", across.wayUp(0, 0, 11), 1);
    }

    private static void wayByWeights() {
        Check.promise(37, "A step into a cell takes 1, and WEIGHT more of the bit SEEN there");
        MirrorTube x = person("tube rolls 0;bit a light x at 1;bit b plain x at 2;bit c heavy x at 3;"
                + "bit d glued x at 4;bit e light x at 4;bit f heavy x at 2", 0, 0);
        int[] steps = {0, 2, 4, 4, 5, 1, 1};
        int length = 0;
        for (int cell = 0; cell < steps.length; cell++) {
            length += steps[cell];
            Check.answered(x, "way(0, 0, " + cell + ")", x.way(0, 0, cell), length);
        }
        // The way back counts the cells that it goes into, not the one that it leaves.
        MirrorTube y = person("tube rolls 0;bit a glued x at 5", 0, 5);
        Check.answered(y, "way(0, 0, 4): out of the glued one's cell", y.way(0, 0, 4), 1);
        Check.answered(y, "way(0, 0, 6): out of the glued one's cell", y.way(0, 0, 6), 1);
    }

    private static void wayUpNumbers() {
        Check.promise(38, "NONE: 1; 2");
        Edge.within(Edge.FULL, "wayUp(p, 0, 0)", 0, 3, 1, (x, p) -> x.wayUp(p, 0, 0));
        Edge.within(Edge.FULL, "wayUp(0, country, 0)", 0, 5, 2, (x, country) -> x.wayUp(0, country, 0));
        Edge.within(Edge.FULL, "wayUp(0, 0, cell)", 0, 11, 2, (x, cell) -> x.wayUp(0, 0, cell));
        Edge.needsTube("wayUp(0, 0, 0)", x -> x.wayUp(0, 0, 0));
        Edge.needsTubeFirst("wayUp(0, 0, cell)", -1, (x, cell) -> x.wayUp(0, 0, cell));
        MirrorTube x = Check.told(Edge.FULL);
        Check.refused(x, "wayUp(4, -1, 0): 1 is told first", x.wayUp(4, -1, 0), 1);
    }

    private static void wayUpWhereHeIs() {
        Check.promise(38, "(0 too, if he is there)");
        for (int country = 0; country < 6; country++) {
            for (int cell = 0; cell < 12; cell++) {
                MirrorTube x = person(GLUED, country, cell);
                Check.answered(x, "wayUp() to " + country + "/" + cell, x.wayUp(0, country, cell), 0);
            }
        }
    }

    private static void wayUpOfLikeOnes() {
        Check.promise(38, "which takes less; if both take as much, UP");
        // From 1/0: UP lie the glued one's 2/4, 3/5 and 4/8, DOWN 1/1, 0/0 and 5/9; 4/11 is 36 steps both ways.
        MirrorTube x = person(GLUED, 1, 0);
        Check.answered(x, "way() to 4/11", x.way(0, 4, 11), 48);
        Check.answered(x, "wayUp() to 4/11: as much", x.wayUp(0, 4, 11), 1);
        Check.answered(x, "way() to 4/10, 35 UP", x.way(0, 4, 10), 47);
        Check.answered(x, "wayUp() to 4/10", x.wayUp(0, 4, 10), 1);
        Check.answered(x, "way() to 5/11, 35 DOWN", x.way(0, 5, 11), 47);
        Check.answered(x, "wayUp() to 5/11", x.wayUp(0, 5, 11), 0);
    }

    private static void nearestNumbers() {
        Check.promise(39, "NONE: 1");
        Edge.within(Edge.FULL, "nearest(p, 0)", 0, 3, 1, (x, p) -> x.nearest(p, 0));
        Edge.within(Edge.FULL, "nearest(0, b)", 0, 5, 1, (x, b) -> x.nearest(0, b));
        Edge.needsTube("nearest(0, 0)", x -> x.nearest(0, 0));
        MirrorTube nobody = Check.told(GLUED);
        Check.refused(nobody, "nearest(0, 0): there is nobody", nobody.nearest(0, 0), 1);
    }

    private static void nearestNone() {
        Check.promise(39, "-2 none is");
        MirrorTube x = person(GLUED + ";bit l light x at 0", 0, 0);
        Check.answered(x, "nearest(0, 1): it lies under", x.nearest(0, 1), -2);
        x.turn(1);
        Check.answered(x, "nearest(0, 1): it lies under no more", x.nearest(0, 1), 3);
        x.turn(5);
        Check.answered(x, "nearest(0, 1): it has come round", x.nearest(0, 1), -2);
        MirrorTube heavy = person(GLUED + ";bit h heavy x at 11;bit i heavy x at 1", 0, 0);
        // To 0/11 UP, 11 steps into both heavy ones' cells; DOWN into the glued one's, too.
        Check.answered(heavy, "nearest(0, 1), a heavy one beside", heavy.nearest(0, 1), 17);
        Check.answered(heavy, "nearest(0, 2), a heavy one beside", heavy.nearest(0, 2), 4);
    }

    private static void nearestThere() {
        Check.promise(39, "The WAY to the nearest country's cell in which a bit is SEEN: how long");
        int[] cells = {0, 1, 4, 5, 8, 9};
        for (int country = 0; country < 6; country++) {
            for (String sort : Edge.SORTS) {
                MirrorTube x = person("tube rolls 0;bit a " + sort + " x at 0", country, cells[country]);
                Check.answered(x, "nearest(0, 0) at " + country + "/" + cells[country], x.nearest(0, 0), 0);
            }
        }
        // From 5/0 it is one step through the mirror to 0/0, nine to 5/9.
        MirrorTube y = person(GLUED, 5, 0);
        Check.answered(y, "nearest(0, 0) from 5/0", y.nearest(0, 0), 5);
        // From 0/11 it is 11 steps to 1/1, as to 0/0.
        MirrorTube z = person(GLUED, 0, 11);
        Check.answered(z, "nearest(0, 0) from 0/11", z.nearest(0, 0), 11 + 4);
    }

    private static void farthestNumbers() {
        Check.promise(40, "NONE: 1");
        Edge.within(Edge.FULL, "farthest(p)", 0, 3, 1, (x, p) -> x.farthest(p));
        Edge.needsTube("farthest(0)", x -> x.farthest(0));
        MirrorTube nobody = Check.told(GLUED);
        Check.refused(nobody, "farthest(0): there is nobody", nobody.farthest(0), 1);
    }

    private static void farthestFirst() {
        Check.promise(40, "The country whose cell 0 is farthest by WAY, the first such");
        // From 4/0: to 0/0 UP 24 steps into 3 cells of the light one, to 1/0 DOWN 25 into 2: 27 both.
        MirrorTube x = person("tube rolls 0;bit l light x at 0", 4, 0);
        Check.due("way() to 0/0", x.way(0, 0, 0), 27);
        Check.due("way() to 1/0", x.way(0, 1, 0), 27);
        Check.answered(x, "farthest(0): 0 and 1 alike", x.farthest(0), 0);
        // From a cell 0 the one three countries on is 25 steps away, into two cells of the light one: 27, the most.
        for (int country = 0; country < 6; country++) {
            MirrorTube y = person("tube rolls 0;bit l light x at 2", country, 0);
            Check.due("way() to " + (country + 3) % 6 + "/0", y.way(0, (country + 3) % 6, 0), 27);
            Check.answered(y, "farthest(0) from " + country + "/0", y.farthest(0), (country + 3) % 6);
        }
    }

    private static void ringNoTube() {
        Check.promise(41, "NONE: 1 (no TUBE)");
        Edge.needsTube("ring()", x -> x.ring());
    }

    private static void ringFromWherever() {
        Check.promise(41, "UP through all countries, from wherever, to the same cell");
        for (int weight = 1; weight <= 4; weight++) {
            MirrorTube x = Edge.alone(Edge.SORTS[weight - 1], 11);
            Check.answered(x, "ring() of one " + Edge.SORTS[weight - 1], x.ring(), 72 + 6 * weight);
        }
        MirrorTube six = Check.told("tube rolls 0;bit a glued x at 0;bit b glued x at 1;bit c glued x at 2;"
                + "bit d glued x at 3;bit e glued x at 4;bit f glued x at 11");
        Check.answered(six, "ring() of six glued ones", six.ring(), 72 + 6 * 24);
        MirrorTube pile = Check.told("tube rolls 0;bit a light x at 0;bit b plain x at 0;bit c light x at 0");
        Check.answered(pile, "ring(): those under do not count", pile.ring(), 72 + 6 * 2);
        for (int country = 0; country < 6; country++) {
            MirrorTube y = person(GLUED, country, 7);
            for (int step = 0; step < 72; step++) {
                y.go(0, true);
            }
            Check.due("person(0, 2), once round from " + country + "/7", y.person(0, 2), y.ring());
            Check.due("person(0, 0), once round", y.person(0, 0), country);
            Check.due("person(0, 1), once round", y.person(0, 1), 7);
        }
    }
}
