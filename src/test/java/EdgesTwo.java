/** Boundary cases of promises 42 to 47: two who turn one tube, shakes by draws. */
final class EdgesTwo {
    private static final String PLAIN = "tube rolls 0;bit a plain x at 0";
    // This SEED stays as it is, and makes each day a TURN by -1.
    private static final int BACK = 65536;

    private EdgesTwo() {
    }

    static void run() {
        twoNumbers();
        twoTogether();
        twoLeastAndMost();
        restsNoneAndOne();
        restsByTheWords();
        restNone();
        restFirst();
        shakenNumbers();
        shakenNoDayAndSixty();
        shakenSeeds();
        shakenSeedRound();
        shakenOnHolidays();
        shakenFromTheDayNow();
        shakenIsNoAct();
        topDaysNumbers();
        topDaysNoneAndAll();
        topDaysBehind();
        rightDaysNumbers();
        rightDaysNoneAndAll();
        rightDaysBehind();
    }

    private static void twoNumbers() {
        Check.promise(42, "both's clicks (-3 .. 3). -100: 1 (no TUBE); 2");
        Edge.within(Edge.FULL, "two(one, 0, false)", -3, 3, 2, -100, (x, one) -> x.two(one, 0, false));
        Edge.within(Edge.FULL, "two(0, other, false)", -3, 3, 2, -100, (x, other) -> x.two(0, other, false));
        Edge.within(Edge.FULL, "two(one, 0, true)", -3, 3, 2, -100, (x, one) -> x.two(one, 0, true));
        Edge.within(Edge.FULL, "two(0, other, true)", -3, 3, 2, -100, (x, other) -> x.two(0, other, true));
        Edge.needsTube("two(0, 0, false)", -100, x -> x.two(0, 0, false));
        Edge.needsTube("two(4, 0, true): 1 is told first", -100, x -> x.two(4, 0, true));
        Edge.needsTube("two(0, -4, true): 1 is told first", -100, x -> x.two(0, -4, true));
    }

    private static void twoTogether() {
        Check.promise(42, "TWO turn one tube by -3 to 3 each (both together)");
        // By 2 or more clicks together the heavy one leaves the glued one; by 1 it does not.
        MirrorTube x = Check.told("tube rolls 0;bit h heavy x at 0;bit g glued x at 0");
        for (int one = -3; one <= 3; one++) {
            for (int other = -3; other <= 3; other++) {
                int tops = Math.abs(one + other) >= 2 ? 2 : 1;
                String by = one + ", " + other;
                Check.due("two(" + by + ", false)", x.two(one, other, false), tops - Math.abs(one));
                Check.due("two(" + by + ", true)", x.two(one, other, true), 2 - tops - Math.abs(other));
            }
        }
        Check.due("trouble() behind an answer of -3", x.trouble(), 0);
        Check.due("bit(0, 2): nothing was turned", x.bit(0, 2), 0);
    }

    private static void twoLeastAndMost() {
        Check.promise(42, "1 less for each click he turns; likewise");
        MirrorTube apart = Check.told("tube rolls 0;bit a glued x at 0;bit b glued x at 1;bit c glued x at 2;"
                + "bit d glued x at 3;bit e glued x at 4;bit f glued x at 11");
        Check.answered(apart, "two(0, 3, false)", apart.two(0, 3, false), 6);
        Check.answered(apart, "two(-3, 0, false)", apart.two(-3, 0, false), 3);
        Check.answered(apart, "two(3, 0, true)", apart.two(3, 0, true), 0);
        Check.answered(apart, "two(0, -3, true)", apart.two(0, -3, true), -3);
        MirrorTube pile = Check.told("tube rolls 0;bit a glued x at 5;bit b glued x at 5;bit c glued x at 5;"
                + "bit d glued x at 5;bit e glued x at 5;bit f glued x at 5");
        Check.answered(pile, "two(3, 3, false)", pile.two(3, 3, false), -2);
        Check.answered(pile, "two(3, 0, true)", pile.two(3, 0, true), 5);
        Check.answered(pile, "two(0, 3, true)", pile.two(0, 3, true), 2);
    }

    private static void restsNoneAndOne() {
        Check.promise(43, "How many RESTS. NONE: 1 (no TUBE)");
        Edge.needsTube("rests()", x -> x.rests());
        // All in one cell: the one had better part them, the other one bring them back.
        MirrorTube none = Check.told("tube rolls 0;bit l light x at 0;bit p plain x at 0;bit h heavy x at 0");
        Check.answered(none, "rests(): none", none.rests(), 0);
        MirrorTube one = Check.told("tube rolls 0;bit g glued x at 0");
        Check.answered(one, "rests(): clicks bring nothing", one.rests(), 1);
        // A click parts them for 1 more and 1 less: both are content with -1, 0 or 1 by the one.
        MirrorTube more = Check.told(PLAIN + ";bit g glued x at 0");
        Check.answered(more, "rests(): neither could have MORE, as much he could", more.rests(), 3);
    }

    private static void restsByTheWords() {
        Check.promise(43, "REST: a pair by which neither could have more alone");
        // Rests with the one's 3, the other one's 3, the other one's -3, the one's -3.
        restsAre("bit a glued x at 3;bit b heavy x at 3;bit c plain x at 3;bit d light x at 4;bit e heavy x at 4", 6);
        restsAre("bit a heavy x at 1;bit b heavy x at 2;bit c plain x at 0;bit d glued x at 3;bit e light x at 8", 4);
        restsAre("bit a heavy x at 2;bit b glued x at 0;bit c plain x at 3;bit d plain x at 4;bit e heavy x at 1", 4);
        restsAre("bit a glued x at 0;bit b light x at 0;bit c glued x at 1;bit d heavy x at 0;bit e plain x at 1", 6);
        // No rests, for a turn by 3 alone, or by -3 alone, brings more.
        restsAre("bit a glued x at 4;bit b light x at 8;bit c glued x at 2;bit d heavy x at 3;bit e plain x at 11;"
                + "bit f heavy x at 1", 0);
        restsAre("bit a glued x at 0;bit b plain x at 2;bit c light x at 0;bit d light x at 4;bit e heavy x at 1;"
                + "bit f heavy x at 9", 0);
    }

    /** The rests as told, and as found by all that each has. */
    private static void restsAre(String bits, int due) {
        MirrorTube x = Check.told("tube rolls 0;" + bits);
        int[][] ofOne = new int[7][7];
        int[][] ofOther = new int[7][7];
        int[] mostOfOne = {-9, -9, -9, -9, -9, -9, -9};
        int[] mostOfOther = mostOfOne.clone();
        for (int i = 0; i < 7; i++) {
            for (int k = 0; k < 7; k++) {
                ofOne[i][k] = x.two(i - 3, k - 3, false);
                ofOther[i][k] = x.two(i - 3, k - 3, true);
                mostOfOne[k] = Math.max(mostOfOne[k], ofOne[i][k]);
                mostOfOther[i] = Math.max(mostOfOther[i], ofOther[i][k]);
            }
        }
        int count = 0;
        int first = -2;
        for (int i = 6; i >= 0; i--) {
            for (int k = 6; k >= 0; k--) {
                if (ofOne[i][k] == mostOfOne[k] && ofOther[i][k] == mostOfOther[i]) {
                    count++;
                    first = 10 * i + k;
                }
            }
        }
        Check.due("the rests found of " + bits, count, due);
        Check.answered(x, "rests() of " + bits, x.rests(), count);
        Check.answered(x, "rest() of " + bits, x.rest(), first);
    }

    private static void restNone() {
        Check.promise(44, "-2. NONE: 1 (no TUBE)");
        Edge.needsTube("rest()", x -> x.rest());
        MirrorTube none = Check.told("tube rolls 0;bit l light x at 0;bit p plain x at 0;bit h heavy x at 0");
        Check.answered(none, "rest()", none.rest(), -2);
    }

    private static void restFirst() {
        Check.promise(44, "The first, by the one's clicks, then the other one's: 10 times the one's and 3, "
                + "and the other one's and 3");
        MirrorTube one = Check.told("tube rolls 0;bit g glued x at 0");
        Check.answered(one, "rest(): 0 and 0", one.rest(), 33);
        MirrorTube more = Check.told(PLAIN + ";bit g glued x at 0");
        Check.answered(more, "rest(): -1 and 0 ahead of 0 and 0", more.rest(), 23);
        // By 1 back the plain one comes to lie under the glued one: the other one gains as much as he pays.
        MirrorTube other = Check.told("tube rolls 0;bit g glued x at 5;bit p plain x at 6");
        Check.answered(other, "rest(): 0 and -1 ahead of 0 and 0", other.rest(), 32);
    }

    // ---- shakes

    private static void shakenNumbers() {
        Check.promise(45, "n days (0 .. 60) by a SEED (0 .. 65,536). NONE: 1; 2");
        Edge.within(Edge.FULL, "shaken(b, 0, 0)", 0, 5, 1, (x, b) -> x.shaken(b, 0, 0));
        Edge.within(Edge.FULL, "shaken(0, seed, 1)", 0, 65536, 2, (x, seed) -> x.shaken(0, seed, 1));
        Edge.within(Edge.FULL, "shaken(0, 0, n)", 0, 60, 2, (x, n) -> x.shaken(0, 0, n));
        Edge.needsTube("shaken(0, 0, 0)", x -> x.shaken(0, 0, 0));
        Edge.needsTubeFirst("shaken(0, 0, n)", 61, (x, n) -> x.shaken(0, 0, n));
        MirrorTube x = Check.told(PLAIN);
        Check.refused(x, "shaken(1, -1, 61): 1 is told first", x.shaken(1, -1, 61), 1);
    }

    private static void shakenNoDayAndSixty() {
        Check.promise(45, "SHAKES on n days: the cell of a bit then");
        MirrorTube x = Check.told(PLAIN + ";bit g glued x at 11;bit l light x at 11;bit h heavy x at 11");
        Check.answered(x, "shaken(0, 0, 0)", x.shaken(0, 0, 0), 0);
        Check.answered(x, "shaken(2, 65536, 0)", x.shaken(2, BACK, 0), 11);
        Check.answered(x, "shaken(0, 65536, 59)", x.shaken(0, BACK, 59), 1);
        Check.answered(x, "shaken(0, 65536, 60)", x.shaken(0, BACK, 60), 0);
        Check.answered(x, "shaken(1, 65536, 60)", x.shaken(1, BACK, 60), 11);
        Check.answered(x, "shaken(2, 65536, 59)", x.shaken(2, BACK, 59), 1);
        Check.answered(x, "shaken(3, 65536, 60): halves of -1 are none", x.shaken(3, BACK, 60), 11);
    }

    private static void shakenSeeds() {
        Check.promise(45, "a TURN by a DRAW mod 7, less 3");
        MirrorTube x = Check.told(PLAIN);
        // 0 becomes 74, 5624, 28652, 51790, which leave 4, 3, 1, 4: turns by 1, 0, -2, 1.
        int[] due = {0, 1, 1, 11, 0};
        for (int n = 0; n <= 4; n++) {
            Check.answered(x, "shaken(0, 0, " + n + ")", x.shaken(0, 0, n), due[n]);
        }
        MirrorTube heavy = Check.told("tube rolls 0;bit h heavy x at 0;bit p plain x at 0");
        int[] halves = {0, 0, 0, 11, 11};
        for (int n = 4; n >= 0; n--) {
            Check.answered(heavy, "shaken(0, 0, " + n + ") of a heavy one", heavy.shaken(0, 0, n), halves[n]);
            Check.answered(heavy, "shaken(1, 0, " + n + ") beside a heavy one", heavy.shaken(1, 0, n), due[n]);
        }
        // 45438 becomes 0, the least there is, and that leaves 0: -3; then 74: 1.
        Check.answered(x, "shaken(0, 45438, 1)", x.shaken(0, 45438, 1), 9);
        Check.answered(x, "shaken(0, 45438, 2)", x.shaken(0, 45438, 2), 10);
        // 1 becomes 149, which leaves 2: -1. 2 becomes 224, which leaves 0: -3. 4 becomes 374, which leaves 3: 0.
        Check.answered(x, "shaken(0, 1, 1)", x.shaken(0, 1, 1), 11);
        Check.answered(x, "shaken(0, 2, 1)", x.shaken(0, 2, 1), 9);
        Check.answered(x, "shaken(0, 4, 1)", x.shaken(0, 4, 1), 0);
        // 5 becomes 449 and leaves 1: -2; 9 becomes 749 and leaves 0; 10 becomes 824 and leaves 5: 2; 13, 1049, 6: 3.
        Check.answered(x, "shaken(0, 10, 1)", x.shaken(0, 10, 1), 2);
        Check.answered(x, "shaken(0, 13, 1)", x.shaken(0, 13, 1), 3);
    }

    private static void shakenSeedRound() {
        Check.promise(45, "(SEED becomes (75 times SEED and 74) mod 65,537)");
        MirrorTube x = Check.told(PLAIN);
        // 872 becomes 65474, which leaves 3: 0. 873 becomes 65549, so 12, which leaves 5: 2.
        Check.answered(x, "shaken(0, 872, 1)", x.shaken(0, 872, 1), 0);
        Check.answered(x, "shaken(0, 873, 1)", x.shaken(0, 873, 1), 2);
        // 65536 becomes 4915274, so 65536 again, which leaves 2: -1.
        Check.answered(x, "shaken(0, 65536, 1)", x.shaken(0, 65536, 1), 11);
        Check.answered(x, "shaken(0, 65536, 2)", x.shaken(0, 65536, 2), 10);
        // 65535 becomes 4915199, so 65461, which leaves 4: 1.
        Check.answered(x, "shaken(0, 65535, 1)", x.shaken(0, 65535, 1), 1);
    }

    private static void shakenOnHolidays() {
        Check.promise(45, "(not on a holiday: no DRAW then)");
        MirrorTube x = Check.told(PLAIN + ";holiday 0;holiday 1;holiday 3;holiday 59");
        // Turns by 1, 0, -2 fall on the days 2, 4 and 5.
        int[] due = {0, 0, 0, 1, 1, 1, 11};
        for (int n = 0; n < due.length; n++) {
            Check.answered(x, "shaken(0, 0, " + n + ")", x.shaken(0, 0, n), due[n]);
        }
        Check.answered(x, "shaken(0, 65536, 59): 56 draws", x.shaken(0, BACK, 59), 4);
        Check.answered(x, "shaken(0, 65536, 60): 56 draws", x.shaken(0, BACK, 60), 4);
        MirrorTube week = Check.told(PLAIN + ";holiday 0;holiday 1;holiday 2;holiday 3;holiday 4;holiday 5;"
                + "holiday 6;holiday 7");
        Check.answered(week, "shaken(0, 0, 8): all of them holidays", week.shaken(0, 0, 8), 0);
        Check.answered(week, "shaken(0, 0, 9)", week.shaken(0, 0, 9), 1);
    }

    private static void shakenFromTheDayNow() {
        Check.promise(45, "from the day NOW on");
        MirrorTube x = Check.told(PLAIN + ";holiday 98;holiday 99");
        x.waits(98);
        Check.answered(x, "shaken(0, 0, 1) on the holiday 98", x.shaken(0, 0, 1), 0);
        Check.answered(x, "shaken(0, 0, 2) to the holiday 99", x.shaken(0, 0, 2), 0);
        Check.answered(x, "shaken(0, 0, 3) to day 100", x.shaken(0, 0, 3), 1);
        x.waits(1);
        Check.answered(x, "shaken(0, 0, 1) on the holiday 99", x.shaken(0, 0, 1), 0);
        Check.answered(x, "shaken(0, 0, 2) from the holiday 99", x.shaken(0, 0, 2), 1);
        for (int waits = 0; waits < 9; waits++) {
            x.waits(99);
        }
        x.waits(9);
        Check.due("size(7): the last day there is", x.size(7), 999);
        Check.answered(x, "shaken(0, 65536, 60) from day 999 on", x.shaken(0, BACK, 60), 0);
        Check.answered(x, "shaken(0, 65536, 1) on day 999", x.shaken(0, BACK, 1), 11);
    }

    private static void shakenIsNoAct() {
        Check.promise(45, "SHAKES are none of the ACTS");
        MirrorTube x = Edge.used(Edge.FULL);
        String before = Edge.picture(x);
        x.shaken(0, 5, 60);
        x.topDays(0, 5, 60);
        x.rightDays(5, 60);
        Check.due("all is as it was", Edge.picture(x).equals(before), true);
    }

    private static void topDaysNumbers() {
        Check.promise(46, "NONE: 1; 2");
        Edge.within(Edge.FULL, "topDays(b, 0, 0)", 0, 5, 1, (x, b) -> x.topDays(b, 0, 0));
        Edge.within(Edge.FULL, "topDays(0, seed, 1)", 0, 65536, 2, (x, seed) -> x.topDays(0, seed, 1));
        Edge.within(Edge.FULL, "topDays(0, 0, n)", 0, 60, 2, (x, n) -> x.topDays(0, 0, n));
        Edge.needsTube("topDays(0, 0, 0)", x -> x.topDays(0, 0, 0));
        Edge.needsTubeFirst("topDays(0, seed, 0)", 65537, (x, seed) -> x.topDays(0, seed, 0));
        MirrorTube x = Check.told(PLAIN);
        Check.refused(x, "topDays(-1, 65537, -1): 1 is told first", x.topDays(-1, 65537, -1), 1);
    }

    private static void topDaysNoneAndAll() {
        Check.promise(46, "Behind how many of them: none, all");
        MirrorTube x = Check.told("tube rolls 0;bit a plain x at 0;bit b plain x at 0;holiday 0;holiday 1");
        Check.answered(x, "topDays(0, 0, 0)", x.topDays(0, 0, 0), 0);
        Check.answered(x, "topDays(0, 0, 2): holidays are days, too", x.topDays(0, 0, 2), 2);
        Check.answered(x, "topDays(0, 0, 60)", x.topDays(0, 0, 60), 60);
        Check.answered(x, "topDays(1, 0, 60): always under", x.topDays(1, 0, 60), 0);
    }

    private static void topDaysBehind() {
        Check.promise(46, "Behind how many of them a bit is on TOP");
        MirrorTube x = Check.told(PLAIN + ";bit g glued x at 0");
        // It lies under the glued one now, which is no day, and behind the 12th, the 24th, .. the 60th.
        int[] days = {1, 11, 12, 13, 23, 24, 59, 60};
        int[] due = {1, 11, 11, 12, 22, 22, 55, 55};
        for (int k = 0; k < days.length; k++) {
            Check.answered(x, "topDays(0, 65536, " + days[k] + ")", x.topDays(0, BACK, days[k]), due[k]);
        }
    }

    private static void rightDaysNumbers() {
        Check.promise(47, "NONE: 1 (no TUBE); 2");
        Edge.within(Edge.FULL, "rightDays(seed, 1)", 0, 65536, 2, (x, seed) -> x.rightDays(seed, 1));
        Edge.within(Edge.FULL, "rightDays(0, n)", 0, 60, 2, (x, n) -> x.rightDays(0, n));
        Edge.needsTube("rightDays(0, 0)", x -> x.rightDays(0, 0));
        Edge.needsTubeFirst("rightDays(seed, 0)", -1, (x, seed) -> x.rightDays(seed, 0));
    }

    private static void rightDaysNoneAndAll() {
        Check.promise(47, "Behind how many of them: none, all");
        MirrorTube right = Check.told("tube rolls 0;bit g glued x at 0;want g at 0;holiday 0");
        Check.answered(right, "rightDays(0, 0)", right.rightDays(0, 0), 0);
        Check.answered(right, "rightDays(0, 1): a holiday is a day, too", right.rightDays(0, 1), 1);
        Check.answered(right, "rightDays(0, 60)", right.rightDays(0, 60), 60);
        MirrorTube wrong = Check.told("tube rolls 0;bit g glued x at 0;want g at 11");
        Check.answered(wrong, "rightDays(0, 60)", wrong.rightDays(0, 60), 0);
        MirrorTube none = Check.told(PLAIN);
        Check.answered(none, "rightDays(0, 60): none is wanted", none.rightDays(0, 60), 60);
    }

    private static void rightDaysBehind() {
        Check.promise(47, "all wanted ones lie right");
        MirrorTube x = Check.told(PLAIN + ";want a at 0");
        int[] days = {1, 11, 12, 13, 24, 59, 60};
        int[] due = {0, 0, 1, 1, 2, 4, 5};
        for (int k = 0; k < days.length; k++) {
            Check.answered(x, "rightDays(65536, " + days[k] + ")", x.rightDays(BACK, days[k]), due[k]);
        }
        MirrorTube both = Check.told(PLAIN + ";bit b glued x at 5;want a at 0;want b at 6");
        Check.answered(both, "rightDays(65536, 60): one of two never", both.rightDays(BACK, 60), 0);
    }
}
