/** Promises 6 to 16: bit, top, stack, seen, lies, under, until, behind, topsBehind, twins, mostTops. */
public final class NowTest {
    private static final String PILE = "tube rolls 0;bit l light red at 0;bit p plain blue at 0;bit q plain red at 0;"
            + "bit h heavy gold at 0;bit g glued blue at 7;want p at 3;after h at 9";

    private NowTest() {
    }

    public static void main(String[] args) {
        noTube();
        bit();
        topAndStack();
        seenAndLies();
        underAndUntil();
        behind();
        twins();
        mostTops();
        Check.end();
    }

    private static void noTube() {
        MirrorTube x = new MirrorTube();
        Check.refused(x, "bit(0, 0)", x.bit(0, 0), 1);
        Check.refused(x, "top(0)", x.top(0), 1);
        Check.refused(x, "top(12)", x.top(12), 1);
        Check.refused(x, "stack(0)", x.stack(0), 1);
        Check.refused(x, "seen(0, 0)", x.seen(0, 0), 1);
        Check.refused(x, "lies(0, 0)", x.lies(0, 0), 1);
        Check.refused(x, "under()", x.under(), 1);
        Check.refused(x, "until(0)", x.until(0), 1);
        Check.refused(x, "behind(0, 0)", x.behind(0, 0), 1);
        Check.refused(x, "topsBehind(0)", x.topsBehind(0), 1);
        Check.refused(x, "twins()", x.twins(), 1);
        Check.refused(x, "mostTops()", x.mostTops(), 1);
    }

    private static void bit() {
        MirrorTube x = Check.told(PILE);
        int[] sorts = {0, 1, 1, 2, 3};
        for (int b = 0; b < 5; b++) {
            Check.answered(x, "bit(" + b + ", 0)", x.bit(b, 0), sorts[b]);
            Check.answered(x, "bit(" + b + ", 4)", x.bit(b, 4), sorts[b] + 1);
            Check.answered(x, "bit(" + b + ", 1)", x.bit(b, 1), b == 4 ? 7 : 0);
            Check.answered(x, "bit(" + b + ", 3)", x.bit(b, 3), b >= 3 ? 1 : 0);
            Check.answered(x, "bit(" + b + ", 5)", x.bit(b, 5), b == 1 ? 3 : -2);
            Check.answered(x, "bit(" + b + ", 6)", x.bit(b, 6), b == 3 ? 9 : -2);
        }
        x.turn(-5);
        int[] cells = {2, 7, 7, 10, 7};
        for (int b = 0; b < 5; b++) {
            Check.answered(x, "bit(" + b + ", 2)", x.bit(b, 2), cells[b]);
            Check.answered(x, "bit(" + b + ", 1) stays", x.bit(b, 1), b == 4 ? 7 : 0);
        }
        Check.refused(x, "bit(5, 0)", x.bit(5, 0), 1);
        Check.refused(x, "bit(-1, 0)", x.bit(-1, 0), 1);
        Check.refused(x, "bit(0, 7)", x.bit(0, 7), 1);
        Check.refused(x, "bit(0, -1)", x.bit(0, -1), 1);
    }

    private static void topAndStack() {
        MirrorTube x = Check.told(PILE);
        Check.answered(x, "top(0)", x.top(0), 3);
        Check.answered(x, "stack(0)", x.stack(0), 15);
        Check.answered(x, "top(7)", x.top(7), 4);
        Check.answered(x, "stack(7)", x.stack(7), 16);
        Check.answered(x, "top(11)", x.top(11), -2);
        Check.answered(x, "stack(11)", x.stack(11), 0);
        x.turn(1);
        Check.answered(x, "top(1): of like ones the first", x.top(1), 1);
        Check.answered(x, "stack(1)", x.stack(1), 6);
        Check.refused(x, "top(-1)", x.top(-1), 2);
        Check.refused(x, "top(12)", x.top(12), 2);
        Check.refused(x, "stack(-1)", x.stack(-1), 2);
        Check.refused(x, "stack(12)", x.stack(12), 2);
    }

    private static void seenAndLies() {
        MirrorTube x = Check.told(PILE);
        // Cell 0 of the tube, and cell 7, in the countries 0 to 5.
        int[] ofZero = {0, 1, 4, 5, 8, 9};
        int[] ofSeven = {7, 6, 11, 10, 3, 2};
        for (int j = 0; j < 6; j++) {
            Check.answered(x, "seen, country " + j, x.seen(j, ofZero[j]), 3);
            Check.answered(x, "seen, country " + j, x.seen(j, ofSeven[j]), 4);
            Check.answered(x, "lies(0, " + j + "), though under others", x.lies(0, j), ofZero[j]);
            Check.answered(x, "lies(4, " + j + ")", x.lies(4, j), ofSeven[j]);
            int shown = 0;
            for (int c = 0; c < 12; c++) {
                shown += x.seen(j, c) == -2 ? 0 : 1;
            }
            Check.due("cells that show a bit in country " + j, shown, 2);
        }
        Check.refused(x, "seen(6, 0)", x.seen(6, 0), 2);
        Check.refused(x, "seen(-1, 0)", x.seen(-1, 0), 2);
        Check.refused(x, "seen(0, 12)", x.seen(0, 12), 2);
        Check.refused(x, "seen(0, -1)", x.seen(0, -1), 2);
        Check.refused(x, "lies(0, 6)", x.lies(0, 6), 2);
        Check.refused(x, "lies(0, -1)", x.lies(0, -1), 2);
        Check.refused(x, "lies(5, 6): 1 ahead of 2", x.lies(5, 6), 1);
    }

    private static void underAndUntil() {
        MirrorTube x = Check.told(PILE);
        Check.answered(x, "under()", x.under(), 7);
        Check.answered(x, "until(0)", x.until(0), 1);
        Check.answered(x, "until(1)", x.until(1), 1);
        Check.answered(x, "until(2): always under 1", x.until(2), -2);
        Check.answered(x, "until(3)", x.until(3), 0);
        x.turn(6);
        Check.answered(x, "under()", x.under(), 4);
        Check.refused(x, "until(5)", x.until(5), 1);
        Check.refused(x, "until(-1)", x.until(-1), 1);
        // Two heavy ones lie still by single clicks, however many there are.
        MirrorTube y = Check.told("tube rolls 0;bit a heavy x at 0;bit b heavy x at 0;bit c plain x at 11");
        Check.answered(y, "until(1)", y.until(1), -2);
        y.turn(1);
        Check.answered(y, "until(2)", y.until(2), 1);
    }

    private static void behind() {
        MirrorTube x = Check.told(PILE);
        int[] light = {0, 2, 4, 6, 8, 10, 0, 2, 4, 6, 8, 10, 0};
        int[] plain = {6, 7, 8, 9, 10, 11, 0, 1, 2, 3, 4, 5, 6};
        int[] heavy = {9, 10, 10, 11, 11, 0, 0, 0, 1, 1, 2, 2, 3};
        int[] tops = {4, 3, 4, 4, 4, 4, 2, 4, 4, 4, 4, 4, 4};
        for (int k = -6; k <= 6; k++) {
            Check.answered(x, "behind(0, " + k + ")", x.behind(0, k), light[k + 6]);
            Check.answered(x, "behind(2, " + k + ")", x.behind(2, k), plain[k + 6]);
            Check.answered(x, "behind(3, " + k + ")", x.behind(3, k), heavy[k + 6]);
            Check.answered(x, "behind(4, " + k + ")", x.behind(4, k), 7);
            Check.answered(x, "topsBehind(" + k + ")", x.topsBehind(k), tops[k + 6]);
        }
        Check.due("bit(0, 2): nothing was turned", x.bit(0, 2), 0);
        Check.refused(x, "behind(0, 7)", x.behind(0, 7), 2);
        Check.refused(x, "behind(0, -7)", x.behind(0, -7), 2);
        Check.refused(x, "behind(5, 7): 1 ahead of 2", x.behind(5, 7), 1);
        Check.refused(x, "topsBehind(7)", x.topsBehind(7), 2);
        Check.refused(x, "topsBehind(-7)", x.topsBehind(-7), 2);
    }

    private static void twins() {
        MirrorTube x = Check.told(PILE);
        Check.answered(x, "twins(): 0 and 2 ahead of 1 and 4", x.twins(), 2);
        MirrorTube y = Check.told("tube rolls 0;bit a light x at 0;bit b light y at 0;bit c light z at 0;"
                + "bit d light y at 1;bit e light z at 1");
        Check.answered(y, "twins()", y.twins(), 13);
        MirrorTube z = Check.told("tube rolls 0;bit a light x at 0;bit b light xx at 0");
        Check.answered(z, "twins()", z.twins(), -2);
    }

    private static void mostTops() {
        MirrorTube x = Check.told(PILE);
        Check.answered(x, "mostTops(): -6, the first", x.mostTops(), 0);
        MirrorTube y = Check.told("tube rolls 0;bit a plain x at 0;bit b glued x at 6");
        Check.answered(y, "mostTops(): by -6 it is under", y.mostTops(), 1);
        MirrorTube z = Check.told("tube rolls 0;bit a glued x at 0;bit b glued x at 0");
        Check.answered(z, "mostTops()", z.mostTops(), 0);
        MirrorTube w = Check.told("tube rolls 0;bit a plain x at 9;bit b plain x at 5;bit c heavy x at 2;"
                + "bit d glued x at 2;bit e light x at 9;bit f glued x at 1");
        Check.answered(w, "mostTops(): by 6 alone", w.mostTops(), 12);
    }
}
