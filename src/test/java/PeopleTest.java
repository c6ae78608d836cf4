/** Promises 36 to 41: person, way, wayUp, nearest, farthest, ring. */
public final class PeopleTest {
    // The glued bit makes its cell dear: cell 0 of the tube, shown in cells 0, 1, 4, 5, 8, 9 of countries 0 to 5.
    private static final String ONE = "tube rolls 0;bit g glued x at 0;person p in 0 at 11;person q in 3 at 0;"
            + "person r in 0 at 0";

    private PeopleTest() {
    }

    public static void main(String[] args) {
        noTube();
        person();
        steps();
        ways();
        nearest();
        farthest();
        ring();
        Check.end();
    }

    private static void noTube() {
        MirrorTube x = new MirrorTube();
        Check.refused(x, "person(0, 0)", x.person(0, 0), 1);
        Check.refused(x, "way(0, 0, 0)", x.way(0, 0, 0), 1);
        Check.refused(x, "wayUp(0, 6, 0)", x.wayUp(0, 6, 0), 1);
        Check.refused(x, "nearest(0, 0)", x.nearest(0, 0), 1);
        Check.refused(x, "farthest(0)", x.farthest(0), 1);
        Check.refused(x, "ring()", x.ring(), 1);
    }

    private static void person() {
        MirrorTube x = Check.told(ONE);
        int[][] due = {{0, 11, 0}, {3, 0, 0}, {0, 0, 0}};
        for (int p = 0; p < 3; p++) {
            for (int what = 0; what < 3; what++) {
                Check.answered(x, "person(" + p + ", " + what + ")", x.person(p, what), due[p][what]);
            }
        }
        Check.refused(x, "person(3, 0)", x.person(3, 0), 1);
        Check.refused(x, "person(-1, 0)", x.person(-1, 0), 1);
        Check.refused(x, "person(0, 3)", x.person(0, 3), 1);
        Check.refused(x, "person(0, -1)", x.person(0, -1), 1);
    }

    /** All the way round, UP and back DOWN, against the words of the document. */
    private static void steps() {
        MirrorTube x = Check.told(ONE);
        int[] dear = {0, 1, 4, 5, 8, 9};
        int sum = 0;
        for (int k = 1; k <= 72; k++) {
            int country = k / 12 % 6;
            int cell = country % 2 == 0 ? k % 12 : 11 - k % 12;
            int length = cell == dear[country] ? 5 : 1;
            sum += length;
            Check.answered(x, "go(2, true)", x.go(2, true), length);
            Check.due("the country", x.person(2, 0), country);
            Check.due("the cell", x.person(2, 1), cell);
            Check.due("steps so far", x.person(2, 2), sum);
        }
        Check.due("ring()", x.ring(), sum);
        for (int k = 71; k >= 60; k--) {
            int length = 11 - k % 12 == 9 ? 5 : 1;
            Check.answered(x, "go(2, false)", x.go(2, false), length);
            Check.due("the country", x.person(2, 0), 5);
            Check.due("the cell", x.person(2, 1), 11 - k % 12);
        }
    }

    private static void ways() {
        MirrorTube x = Check.told(ONE);
        Check.answered(x, "way(0, 0, 11)", x.way(0, 0, 11), 0);
        Check.answered(x, "wayUp(0, 0, 11): he is there", x.wayUp(0, 0, 11), 0);
        Check.answered(x, "way(0, 1, 11): through the mirror", x.way(0, 1, 11), 1);
        Check.answered(x, "wayUp(0, 1, 11)", x.wayUp(0, 1, 11), 1);
        Check.answered(x, "way(0, 0, 10)", x.way(0, 0, 10), 1);
        Check.answered(x, "wayUp(0, 0, 10)", x.wayUp(0, 0, 10), 0);
        Check.answered(x, "way(0, 0, 0): into the dear cell", x.way(0, 0, 0), 15);
        Check.answered(x, "way(1, 4, 0): next to it", x.way(1, 4, 0), 1);
        Check.answered(x, "wayUp(1, 4, 0)", x.wayUp(1, 4, 0), 1);
        Check.answered(x, "way(1, 2, 0): all through country 3 and 2", x.way(1, 2, 0), 11 + 4 + 1 + 11 + 4);
        Check.answered(x, "wayUp(1, 2, 0)", x.wayUp(1, 2, 0), 0);
        // From 0/0 to 3/9: 38 steps UP into 2 dear cells, or 34 DOWN into 3.
        Check.answered(x, "way(2, 3, 9)", x.way(2, 3, 9), 46);
        Check.answered(x, "wayUp(2, 3, 9): as long as DOWN", x.wayUp(2, 3, 9), 1);
        Check.answered(x, "way(2, 3, 8)", x.way(2, 3, 8), 33 + 12);
        Check.answered(x, "wayUp(2, 3, 8)", x.wayUp(2, 3, 8), 0);
        int[][] wrong = {{0, 6, 0}, {0, -1, 0}, {0, 0, 12}, {0, 0, -1}};
        for (int[] w : wrong) {
            Check.refused(x, "way", x.way(w[0], w[1], w[2]), 2);
            Check.refused(x, "wayUp", x.wayUp(w[0], w[1], w[2]), 2);
        }
        Check.refused(x, "way(3, 6, 0): 1 ahead of 2", x.way(3, 6, 0), 1);
        Check.refused(x, "wayUp(-1, 6, 0)", x.wayUp(-1, 6, 0), 1);
    }

    private static void nearest() {
        MirrorTube x = Check.told("tube rolls 0;bit l light x at 0;bit g glued x at 0;bit p plain x at 5;"
                + "person q in 0 at 0");
        Check.answered(x, "nearest(0, 1): he is there", x.nearest(0, 1), 0);
        Check.answered(x, "nearest(0, 0): it lies under", x.nearest(0, 0), -2);
        // In country 0 it is in cell 5; in country 5 in cell 4, 5 steps DOWN from 0/0.
        Check.answered(x, "nearest(0, 2)", x.nearest(0, 2), 5 + 2);
        x.turn(1);
        // The plain one is now in 6: 3 in country 5, 4 DOWN; the light one in 2: 2 of country 0, 2 UP.
        Check.answered(x, "nearest(0, 2)", x.nearest(0, 2), 4 + 2);
        Check.answered(x, "nearest(0, 0)", x.nearest(0, 0), 2 + 1);
        Check.refused(x, "nearest(1, 0)", x.nearest(1, 0), 1);
        Check.refused(x, "nearest(0, 3)", x.nearest(0, 3), 1);
        Check.refused(x, "nearest(-1, 0)", x.nearest(-1, 0), 1);
        Check.refused(x, "nearest(0, -1)", x.nearest(0, -1), 1);
    }

    private static void farthest() {
        MirrorTube x = Check.told(ONE);
        // From 0/0: to 1/0 23 steps UP, to 2/0 24, to 3/0 47 or 25 DOWN, to 4/0 24 DOWN.
        Check.answered(x, "farthest(2)", x.farthest(2), 3);
        MirrorTube y = Check.told("tube rolls 0;bit l light x at 0;person p in 5 at 5");
        // From 5/5 (spot 66): 1/0 is 29 on, 2/0 30 on, 3/0 19 back.
        Check.answered(y, "farthest(0)", y.farthest(0), 2);
        // From 4/0: to 0/0 24 steps and to 1/0 25, but 3 dear cells and 2.
        MirrorTube z = Check.told("tube rolls 0;bit l light x at 0;person p in 4 at 0");
        Check.due("way(0, 0, 0)", z.way(0, 0, 0), 27);
        Check.due("way(0, 1, 0)", z.way(0, 1, 0), 27);
        Check.answered(z, "farthest(0): the first such", z.farthest(0), 0);
        Check.refused(y, "farthest(1)", y.farthest(1), 1);
        Check.refused(y, "farthest(-1)", y.farthest(-1), 1);
    }

    private static void ring() {
        MirrorTube x = Check.told("tube rolls 0;bit l light x at 0;bit p plain x at 0;bit h heavy x at 1");
        Check.answered(x, "ring()", x.ring(), 72 + 6 * 2 + 6 * 3);
        x.turn(1);
        // The light one in 2, the plain one under the heavy one in 1.
        Check.answered(x, "ring()", x.ring(), 72 + 6 * 1 + 6 * 3);
    }
}
