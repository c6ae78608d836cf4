/** Promises 33 to 35: rolls, rollsMore, watch. */
public final class BeadTest {
    private BeadTest() {
    }

    public static void main(String[] args) {
        noTube();
        rolls();
        edges();
        watch();
        Check.end();
    }

    private static void noTube() {
        MirrorTube x = new MirrorTube();
        Check.refused(x, "rolls(0, 0, false)", x.rolls(0, 0, false), 1);
        Check.refused(x, "rolls(9, 0, false)", x.rolls(9, 0, false), 1);
        Check.refused(x, "rollsMore(0, 0, true)", x.rollsMore(0, 0, true), 1);
        Check.refused(x, "watch(0)", x.watch(0), 1);
        Check.refused(x, "watch(7)", x.watch(7), 1);
    }

    private static void oddsAre(MirrorTube x, int n, int times, long upper, long lower) {
        Check.answered(x, "rolls(" + n + ", " + times + ", false)", x.rolls(n, times, false), upper);
        Check.answered(x, "rolls(" + n + ", " + times + ", true)", x.rolls(n, times, true), lower);
    }

    private static void moreAre(MirrorTube x, int n, int times, long upper, long lower) {
        Check.answered(x, "rollsMore(" + n + ", " + times + ", false)", x.rollsMore(n, times, false), upper);
        Check.answered(x, "rollsMore(" + n + ", " + times + ", true)", x.rollsMore(n, times, true), lower);
    }

    private static void rolls() {
        MirrorTube x = Check.told("tube rolls 25;bit a light x at 0");
        oddsAre(x, 0, 0, 1, 1);
        oddsAre(x, 1, 1, 1, 4);
        oddsAre(x, 3, 1, 27, 64);
        oddsAre(x, 8, 0, 6561, 65536);
        // 10 by 64.
        moreAre(x, 3, 2, 5, 32);
        moreAre(x, 3, 0, 1, 1);
        moreAre(x, 3, 3, 1, 64);
        MirrorTube y = Check.told("tube rolls 37;bit a light x at 0");
        // 70 times 37 to the 4th times 63 to the 4th, by 10 to the 16th, both by 10.
        oddsAre(y, 8, 4, 7L * 1874161 * 15752961, 1000000000000000L);
        oddsAre(y, 8, 8, 3512479453921L, 10000000000000000L);
        moreAre(y, 8, 1, 10000000000000000L - 248155780267521L, 10000000000000000L);
    }

    private static void edges() {
        MirrorTube never = Check.told("tube rolls 0;bit a light x at 0");
        oddsAre(never, 8, 0, 1, 1);
        oddsAre(never, 8, 1, 0, 1);
        moreAre(never, 8, 1, 0, 1);
        moreAre(never, 8, 0, 1, 1);
        MirrorTube always = Check.told("tube rolls 100;bit a light x at 0");
        oddsAre(always, 8, 8, 1, 1);
        oddsAre(always, 8, 7, 0, 1);
        oddsAre(always, 0, 0, 1, 1);
        moreAre(always, 8, 8, 1, 1);
        int[][] wrong = {{-1, 0}, {9, 0}, {0, 1}, {8, 9}, {3, -1}, {-1, -1}};
        for (int[] pair : wrong) {
            Check.refused(always, "rolls", always.rolls(pair[0], pair[1], true), 2);
            Check.refused(always, "rollsMore", always.rollsMore(pair[0], pair[1], false), 2);
        }
    }

    private static void watch() {
        MirrorTube x = Check.told("tube rolls 0;bit a plain x at 0;bit b plain x at 2;bit c plain x at 6;bit d plain x at 0");
        Check.answered(x, "watch(0)", x.watch(0), 1 + 4 + 64);
        // 1 sees 0 to 2; 6 is seen from 5, 6 and 7, of which 5 makes the least bits.
        Check.answered(x, "watch(1)", x.watch(1), 2 + 32);
        // One cell cannot; 0 sees 10 to 2, and 4 the 6.
        Check.answered(x, "watch(2)", x.watch(2), 1 + 16);
        Check.answered(x, "watch(3)", x.watch(3), 8);
        // By the ring: from 2 one sees 10 to 6.
        Check.answered(x, "watch(4)", x.watch(4), 4);
        Check.answered(x, "watch(5)", x.watch(5), 2);
        Check.answered(x, "watch(6)", x.watch(6), 1);
        x.turn(-1);
        Check.answered(x, "watch(1)", x.watch(1), 1 + 16);
        Check.refused(x, "watch(7)", x.watch(7), 2);
        Check.refused(x, "watch(-1)", x.watch(-1), 2);
        MirrorTube y = Check.told("tube rolls 0;bit a glued x at 0;bit b glued x at 2;bit c glued x at 4;"
                + "bit d glued x at 6;bit e glued x at 8;bit f glued x at 10");
        Check.answered(y, "watch(0)", y.watch(0), 0x555);
        Check.answered(y, "watch(1)", y.watch(1), 2 + 32 + 512);
        MirrorTube z = Check.told("tube rolls 0;bit a glued x at 11;bit b glued x at 1");
        Check.answered(z, "watch(1): both sides of 0", z.watch(1), 1);
        MirrorTube w = Check.told("tube rolls 0;bit a glued x at 10;bit b glued x at 0");
        Check.answered(w, "watch(1): both sides of 11", w.watch(1), 2048);
    }
}
