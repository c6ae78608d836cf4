/** Boundary cases of promises 33 to 35: a bead's odds, watches. */
final class EdgesBead {
    private static final long WHOLE = 10000000000000000L;
    // 99 to the 8th.
    private static final long NEARLY = 9227446944279201L;

    private EdgesBead() {
    }

    static void run() {
        rollsNumbers();
        rollsTimes();
        rollsNever();
        rollsAlways();
        rollsLargest();
        rollsLowestTerms();
        rollsMoreNumbers();
        rollsMoreTimes();
        rollsMoreBounds();
        rollsMoreLargest();
        watchNumbers();
        watchNoneAndAll();
        watchRound();
        watchLeastBits();
    }

    private static MirrorTube chance(int hundredths) {
        return Check.told("tube rolls " + hundredths + ";bit a light x at 0");
    }

    private static void just(MirrorTube x, int n, int times, long upper, long lower) {
        String call = "rolls(" + n + ", " + times + ", ";
        Check.answered(x, call + "false), rolls " + x.size(0), x.rolls(n, times, false), upper);
        Check.answered(x, call + "true), rolls " + x.size(0), x.rolls(n, times, true), lower);
    }

    private static void more(MirrorTube x, int n, int times, long upper, long lower) {
        String call = "rollsMore(" + n + ", " + times + ", ";
        Check.answered(x, call + "false), rolls " + x.size(0), x.rollsMore(n, times, false), upper);
        Check.answered(x, call + "true), rolls " + x.size(0), x.rollsMore(n, times, true), lower);
    }

    private static void rollsNumbers() {
        Check.promise(33, "n clicks (0 .. 8). -1: 1 (no TUBE); 2");
        Edge.within(Edge.FULL, "rolls(n, 0, false)", 0, 8, 2, (x, n) -> x.rolls(n, 0, false));
        Edge.within(Edge.FULL, "rolls(n, 0, true)", 0, 8, 2, (x, n) -> x.rolls(n, 0, true));
        Edge.needsTube("rolls(0, 0, false)", x -> x.rolls(0, 0, false));
        Edge.needsTubeFirst("rolls(n, 0, true)", 9, (x, n) -> x.rolls(n, 0, true));
    }

    private static void rollsTimes() {
        Check.promise(33, "just so many times (0 .. n)");
        for (int n = 0; n <= 8; n++) {
            int clicks = n;
            Edge.within(Edge.FULL, "rolls(" + n + ", times, true)", 0, n, 2,
                    (x, times) -> x.rolls(clicks, times, true));
        }
        Edge.needsTubeFirst("rolls(0, times, false)", 1, (x, times) -> x.rolls(0, times, false));
    }

    private static void rollsNever() {
        Check.promise(33, "in lowest terms (0 by 1)");
        MirrorTube x = chance(0);
        for (int n = 0; n <= 8; n++) {
            for (int times = 0; times <= n; times++) {
                just(x, n, times, times == 0 ? 1 : 0, 1);
            }
        }
    }

    private static void rollsAlways() {
        Check.promise(33, "with the chance told: 100 in a hundred");
        MirrorTube x = chance(100);
        for (int n = 0; n <= 8; n++) {
            for (int times = 0; times <= n; times++) {
                just(x, n, times, times == n ? 1 : 0, 1);
            }
        }
    }

    private static void rollsLargest() {
        Check.promise(33, "the upper WHOLE or the lower: the largest there are");
        just(chance(1), 8, 8, 1, WHOLE);
        just(chance(1), 8, 0, NEARLY, WHOLE);
        just(chance(99), 8, 8, NEARLY, WHOLE);
        just(chance(99), 8, 0, 1, WHOLE);
        // 8 times 99, of 10 to the 16th: both by 8.
        just(chance(1), 8, 7, 99, WHOLE / 8);
    }

    private static void rollsLowestTerms() {
        Check.promise(33, "in lowest terms");
        just(chance(50), 8, 4, 35, 128);
        just(chance(50), 8, 0, 1, 256);
        just(chance(50), 1, 1, 1, 2);
        just(chance(20), 2, 1, 8, 25);
        just(chance(75), 0, 0, 1, 1);
    }

    private static void rollsMoreNumbers() {
        Check.promise(34, "likewise. -1: 1 (no TUBE); 2");
        Edge.within(Edge.FULL, "rollsMore(n, 0, false)", 0, 8, 2, (x, n) -> x.rollsMore(n, 0, false));
        Edge.within(Edge.FULL, "rollsMore(n, 0, true)", 0, 8, 2, (x, n) -> x.rollsMore(n, 0, true));
        Edge.needsTube("rollsMore(0, 0, true)", x -> x.rollsMore(0, 0, true));
        Edge.needsTubeFirst("rollsMore(n, 0, true)", -1, (x, n) -> x.rollsMore(n, 0, true));
    }

    private static void rollsMoreTimes() {
        Check.promise(34, "so many times, likewise (0 .. n)");
        for (int n = 0; n <= 8; n++) {
            int clicks = n;
            Edge.within(Edge.FULL, "rollsMore(" + n + ", times, true)", 0, n, 2,
                    (x, times) -> x.rollsMore(clicks, times, true));
        }
    }

    private static void rollsMoreBounds() {
        Check.promise(34, "so many times or more");
        MirrorTube never = chance(0);
        MirrorTube always = chance(100);
        for (int n = 0; n <= 8; n++) {
            more(chance(37), n, 0, 1, 1);
            for (int times = 0; times <= n; times++) {
                more(always, n, times, 1, 1);
                more(never, n, times, times == 0 ? 1 : 0, 1);
            }
        }
        more(chance(50), 8, 8, 1, 256);
        more(chance(50), 8, 7, 9, 256);
        more(chance(50), 8, 1, 255, 256);
        more(chance(50), 2, 1, 3, 4);
    }

    private static void rollsMoreLargest() {
        Check.promise(34, "the upper WHOLE or the lower: the largest there are");
        more(chance(1), 8, 1, WHOLE - NEARLY, WHOLE);
        more(chance(99), 8, 1, WHOLE - 1, WHOLE);
        more(chance(99), 8, 8, NEARLY, WHOLE);
        more(chance(1), 8, 8, 1, WHOLE);
    }

    private static void watchNumbers() {
        Check.promise(35, "WATCH (0 .. 6). NONE: 1 (no TUBE); 2");
        Edge.within(Edge.FULL, "watch(cells)", 0, 6, 2, (x, cells) -> x.watch(cells));
        Edge.needsTube("watch(0)", x -> x.watch(0));
        Edge.needsTubeFirst("watch(cells)", 7, (x, cells) -> x.watch(cells));
    }

    private static void watchNoneAndAll() {
        Check.promise(35, "seen so many to each side: 0, and 6");
        for (int at = 0; at < 12; at++) {
            MirrorTube x = Edge.alone(Edge.SORTS[at % 4], at);
            Check.answered(x, "watch(0) of one at " + at, x.watch(0), 1 << at);
            Check.answered(x, "watch(6) of one at " + at + ": all is seen from 0", x.watch(6), 1);
            // Five to each side leave just the cell across.
            Check.answered(x, "watch(5) of one at " + at, x.watch(5), at == 6 ? 2 : 1);
        }
        MirrorTube six = Check.told("tube rolls 0;bit a glued x at 1;bit b glued x at 3;bit c glued x at 5;"
                + "bit d glued x at 7;bit e glued x at 9;bit f glued x at 11");
        Check.answered(six, "watch(0) of six", six.watch(0), 0xaaa);
        Check.answered(six, "watch(6) of six", six.watch(6), 1);
        MirrorTube pile = Check.told("tube rolls 0;bit a light x at 11;bit b plain x at 11;bit c glued x at 11");
        Check.answered(pile, "watch(0) of three in a cell", pile.watch(0), 2048);
    }

    private static void watchRound() {
        Check.promise(35, "(by the ring)");
        MirrorTube first = Check.told("tube rolls 0;bit a glued x at 11;bit b glued x at 1");
        Check.answered(first, "watch(1): from 0 both sides", first.watch(1), 1);
        MirrorTube last = Check.told("tube rolls 0;bit a glued x at 0;bit b glued x at 10");
        Check.answered(last, "watch(1): from 11 both sides", last.watch(1), 2048);
        MirrorTube wide = Check.told("tube rolls 0;bit a glued x at 8;bit b glued x at 4");
        Check.answered(wide, "watch(4): from 0 both sides", wide.watch(4), 1);
        Check.answered(wide, "watch(3): from 5, not round", wide.watch(3), 32);
        MirrorTube across = Check.told("tube rolls 0;bit a glued x at 0;bit b glued x at 6");
        Check.answered(across, "watch(2): no one cell sees both", across.watch(2), 17);
        Check.answered(across, "watch(3): the middle", across.watch(3), 8);
    }

    private static void watchLeastBits() {
        Check.promise(35, "the fewest cells; of like ones the least bits");
        MirrorTube x = Edge.alone("plain", 5);
        int[] due = {32, 16, 8, 4, 2, 1, 1};
        for (int cells = 0; cells <= 6; cells++) {
            Check.answered(x, "watch(" + cells + ") of one at 5", x.watch(cells), due[cells]);
        }
        MirrorTube pairs = Check.told("tube rolls 0;bit a glued x at 0;bit b glued x at 1;bit c glued x at 4;"
                + "bit d glued x at 5;bit e glued x at 8;bit f glued x at 9");
        Check.answered(pairs, "watch(1): 0, 4, 8", pairs.watch(1), 1 + 16 + 256);
        Check.answered(pairs, "watch(2): 2 sees 0 to 4, 7 sees 5 to 9", pairs.watch(2), 4 + 128);
        Check.answered(pairs, "watch(3): 0 sees 9 to 3, 5 sees 2 to 8", pairs.watch(3), 1 + 32);
    }
}
