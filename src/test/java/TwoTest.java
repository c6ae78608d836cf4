/** Promises 42 to 47: two, rests, rest, shaken, topDays, rightDays. */
public final class TwoTest {
    private TwoTest() {
    }

    public static void main(String[] args) {
        noTube();
        two();
        rests();
        noRest();
        shaken();
        holidays();
        days();
        Check.end();
    }

    private static void sharesNot(MirrorTube x, int one, int other, int trouble) {
        Check.due("two(" + one + ", " + other + ")", x.two(one, other, false), -100);
        Check.due("trouble()", x.trouble(), trouble);
        Check.due("two(" + one + ", " + other + ")", x.two(one, other, true), -100);
        Check.due("trouble()", x.trouble(), trouble);
    }

    private static void noTube() {
        MirrorTube x = new MirrorTube();
        sharesNot(x, 0, 0, 1);
        sharesNot(x, 4, 0, 1);
        Check.refused(x, "rests()", x.rests(), 1);
        Check.refused(x, "rest()", x.rest(), 1);
        Check.refused(x, "shaken(0, 0, 0)", x.shaken(0, 0, 0), 1);
        Check.refused(x, "topDays(0, 0, 0)", x.topDays(0, 0, 0), 1);
        Check.refused(x, "rightDays(0, 0)", x.rightDays(0, 0), 1);
        Check.refused(x, "rightDays(0, 61)", x.rightDays(0, 61), 1);
    }

    private static void two() {
        // The heavy one and the glued one part by 2 clicks in one, not by 1 and 1 apart.
        MirrorTube x = Check.told("tube rolls 0;bit h heavy x at 0;bit g glued x at 0;bit f glued x at 5");
        Check.answered(x, "two(1, 1, false)", x.two(1, 1, false), 3 - 1);
        Check.answered(x, "two(1, 1, true)", x.two(1, 1, true), 0 - 1);
        Check.answered(x, "two(3, -2, false)", x.two(3, -2, false), 2 - 3);
        Check.answered(x, "two(3, -2, true)", x.two(3, -2, true), 1 - 2);
        Check.answered(x, "two(-3, -3, false)", x.two(-3, -3, false), 0);
        Check.answered(x, "two(-3, -3, true)", x.two(-3, -3, true), -3);
        Check.answered(x, "two(0, 0, true)", x.two(0, 0, true), 1);
        Check.due("bit(0, 2): nothing was turned", x.bit(0, 2), 0);
        sharesNot(x, 4, 0, 2);
        sharesNot(x, 0, 4, 2);
        sharesNot(x, -4, 0, 2);
        sharesNot(x, 0, -4, 2);
    }

    private static void rests() {
        // Nothing is won by clicks: only 0 and 0 is a rest.
        MirrorTube x = Check.told("tube rolls 0;bit g glued x at 0");
        Check.answered(x, "rests()", x.rests(), 1);
        Check.answered(x, "rest()", x.rest(), 33);
        // Any click parts them; who turns pays 1 for it and gains 1: he need not, but the other would undo it.
        MirrorTube y = Check.told("tube rolls 0;bit p plain x at 0;bit g glued x at 0");
        Check.answered(y, "rests()", y.rests(), 3);
        Check.answered(y, "rest(): -1 and 0", y.rest(), 23);
        MirrorTube z = Check.told("tube rolls 0;bit a plain x at 6;bit b light x at 9;bit c glued x at 0;"
                + "bit d light x at 11;bit e glued x at 7");
        Check.answered(z, "rests(): 0 with -1, 0, 1", z.rests(), 3);
        Check.answered(z, "rest(): 0 and -1", z.rest(), 32);
        MirrorTube v = Check.told("tube rolls 0;bit a plain x at 1;bit b glued x at 4;bit c glued x at 2;"
                + "bit d light x at 2;bit e plain x at 2;bit f heavy x at 1");
        Check.answered(v, "rests(): -3 to 1 with 0", v.rests(), 5);
        Check.answered(v, "rest(): -3 and 0", v.rest(), 3);
        MirrorTube w = Check.told("tube rolls 0;bit a plain x at 3;bit b glued x at 9;bit c heavy x at 5;"
                + "bit d plain x at 4;bit e glued x at 7;bit f light x at 1");
        Check.answered(w, "rests(): 0 with 0 to 3", w.rests(), 4);
        Check.answered(w, "rest(): 0 and 0", w.rest(), 33);
    }

    private static void noRest() {
        // All in one cell: the one had better part them by a click, the other one bring them back.
        MirrorTube x = Check.told("tube rolls 0;bit l light x at 0;bit p plain x at 0;bit h heavy x at 0");
        Check.answered(x, "rests()", x.rests(), 0);
        Check.answered(x, "rest()", x.rest(), -2);
    }

    private static void shaken() {
        MirrorTube x = Check.told("tube rolls 0;bit p plain x at 0;bit h heavy x at 0");
        // SEED 0 becomes 74, 5624, 28652, 51790: by 7 these leave 4, 3, 1, 4, so 1, 0, -2, 1.
        int[] plain = {0, 1, 1, 11, 0};
        int[] heavy = {0, 0, 0, 11, 11};
        for (int n = 0; n <= 4; n++) {
            Check.answered(x, "shaken(0, 0, " + n + ")", x.shaken(0, 0, n), plain[n]);
            Check.answered(x, "shaken(1, 0, " + n + ")", x.shaken(1, 0, n), heavy[n]);
        }
        // SEED 65536 is -1, so it becomes -1 again: 65536 by 7 leaves 2, so -1 each day.
        Check.answered(x, "shaken(0, 65536, 5)", x.shaken(0, 65536, 5), 7);
        Check.answered(x, "shaken(1, 65536, 60)", x.shaken(1, 65536, 60), 0);
        Check.due("bit(0, 2): nothing was turned", x.bit(0, 2), 0);
        Check.due("size(7): no day went by", x.size(7), 0);
        int[][] wrong = {{-1, 0}, {65537, 0}, {0, -1}, {0, 61}};
        for (int[] w : wrong) {
            Check.refused(x, "shaken", x.shaken(0, w[0], w[1]), 2);
            Check.refused(x, "topDays", x.topDays(0, w[0], w[1]), 2);
            Check.refused(x, "rightDays", x.rightDays(w[0], w[1]), 2);
            Check.refused(x, "shaken: 1 ahead of 2", x.shaken(2, w[0], w[1]), 1);
            Check.refused(x, "topDays: 1 ahead of 2", x.topDays(-1, w[0], w[1]), 1);
        }
    }

    private static void holidays() {
        MirrorTube x = Check.told("tube rolls 0;bit p plain x at 0;holiday 1;holiday 3;holiday 4");
        int[] due = {0, 1, 1, 1, 1, 1, 11, 0};
        for (int n = 0; n < due.length; n++) {
            Check.answered(x, "shaken(0, 0, " + n + ")", x.shaken(0, 0, n), due[n]);
        }
        x.waits(3);
        int[] later = {0, 0, 0, 1, 1, 11};
        for (int n = 0; n < later.length; n++) {
            Check.answered(x, "shaken(0, 0, " + n + ") from day 3 on", x.shaken(0, 0, n), later[n]);
        }
    }

    private static void days() {
        MirrorTube x = Check.told("tube rolls 0;bit p plain x at 0;bit g glued x at 11;bit q plain x at 1;"
                + "holiday 3;want p at 11;want q at 0");
        // p lies in 1, 1, 11, (a holiday) 11, 0.
        int[] tops = {0, 1, 2, 2, 2, 3};
        int[] rights = {0, 0, 0, 1, 2, 2};
        for (int n = 0; n <= 5; n++) {
            Check.answered(x, "topDays(0, 0, " + n + ")", x.topDays(0, 0, n), tops[n]);
            Check.answered(x, "topDays(1, 0, " + n + ")", x.topDays(1, 0, n), n);
            Check.answered(x, "rightDays(0, " + n + ")", x.rightDays(0, n), rights[n]);
        }
        MirrorTube y = Check.told("tube rolls 0;bit p plain x at 0");
        Check.answered(y, "rightDays() without a wanted one", y.rightDays(0, 60), 60);
    }
}
