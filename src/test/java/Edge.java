import java.util.function.ToLongFunction;

/** What the tests of boundary cases share. */
final class Edge {
    /** As many of everything as a text may tell, in 519 bytes. */
    static final String FULL = "tube rolls 50;bit a light red at 0;bit b plain blue at 3;bit c heavy red at 3;"
            + "bit d glued gold at 6;bit e light blue at 11;bit f plain gold at 6;"
            + "want a at 4;want b at 5;want c at 0;want d at 6;want e at 11;want f at 1;"
            + "after a at 4;after b at 5;after c at 0;after d at 6;after e at 11;after f at 1;"
            + "met 0 red;met 3 blue;met 6 gold;met 7 x;met 8 x;met 11 blue;"
            + "holiday 2;holiday 3;holiday 10;holiday 20;holiday 30;holiday 40;holiday 98;holiday 99;"
            + "person p in 0 at 0;person q in 1 at 0;person r in 4 at 7;person s in 5 at 11";

    static final String[] SORTS = {"light", "plain", "heavy", "glued"};

    private static final int[] FAR = {Integer.MIN_VALUE, Integer.MAX_VALUE};

    interface Ask {
        long of(MirrorTube x, int number);
    }

    private Edge() {
    }

    /** A tube in which something of all that acts change has been changed, on a day that is no holiday. */
    static MirrorTube used(String text) {
        MirrorTube x = Check.told(text);
        x.turn(1);
        x.go(0, true);
        x.image();
        x.waits(1);
        Check.feed(x, "on the tape");
        return x;
    }

    /** All that can be told of what an object holds; it asks, so look at trouble() first. */
    static String picture(MirrorTube x) {
        StringBuilder all = new StringBuilder();
        for (int what = 0; what <= 10; what++) {
            all.append(x.size(what)).append(' ');
        }
        for (int b = 0; b < 6; b++) {
            for (int what = 0; what <= 6; what++) {
                all.append(x.bit(b, what)).append(' ');
            }
        }
        for (int p = 0; p < 4; p++) {
            for (int what = 0; what <= 2; what++) {
                all.append(x.person(p, what)).append(' ');
            }
        }
        return all.toString();
    }

    /** The number may be low to high; just beyond and far beyond the call is refused and leaves all as it is. */
    static void within(String text, String call, int low, int high, int trouble, Ask ask) {
        within(text, call, low, high, trouble, MirrorTube.NONE, ask);
    }

    static void within(String text, String call, int low, int high, int trouble, int refusal, Ask ask) {
        for (int number : new int[] {low, high}) {
            MirrorTube x = used(text);
            boolean refused = ask.of(x, number) == refusal;
            Check.due(call + " by " + number + " is refused", refused, false);
            Check.due("trouble() behind " + call + " by " + number, x.trouble(), 0);
        }
        for (int number : new int[] {low - 1, high + 1, FAR[0], FAR[1]}) {
            MirrorTube x = used(text);
            String before = picture(x);
            Check.due(call + " by " + number, ask.of(x, number), refusal);
            Check.due("trouble() behind " + call + " by " + number, x.trouble(), trouble);
            Check.due(call + " by " + number + " leaves all as it is", picture(x).equals(before), true);
        }
    }

    /** Without a TUBE, be it that none was told or only one with a fault, the call is refused by 1. */
    static void needsTube(String call, ToLongFunction<MirrorTube> ask) {
        needsTube(call, MirrorTube.NONE, ask);
    }

    static void needsTube(String call, int refusal, ToLongFunction<MirrorTube> ask) {
        MirrorTube x = new MirrorTube();
        Check.due(call + " of a new object", ask.applyAsLong(x), refusal);
        Check.due("trouble() behind " + call + " of a new object", x.trouble(), 1);
        Check.tell(x, FULL + ";");
        Check.due("trouble() behind a fault", x.trouble(), 4);
        Check.due(call + " behind a fault", ask.applyAsLong(x), refusal);
        Check.due("trouble() behind " + call + " behind a fault", x.trouble(), 1);
    }

    /** The number of refusal told first goes ahead: without a TUBE even a wrong number is refused by 1. */
    static void needsTubeFirst(String call, int wrong, Ask ask) {
        needsTube(call + " by " + wrong, x -> ask.of(x, wrong));
    }

    /** One bit of a sort in a cell, and nothing else. */
    static MirrorTube alone(String sort, int cell) {
        return Check.told("tube rolls 0;bit a " + sort + " x at " + cell);
    }
}
