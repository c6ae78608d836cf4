/** Promises 17 to 25: right, turnsTo, turnAt, bestTurn, can, made, madeAt, fewestMade, same. */
public final class TurnsTest {
    private TurnsTest() {
    }

    public static void main(String[] args) {
        noTube();
        right();
        toWant();
        bestTurn();
        can();
        made();
        same();
        Check.end();
    }

    private static void noTube() {
        MirrorTube x = new MirrorTube();
        Check.refused(x, "right()", x.right(), 1);
        Check.refused(x, "turnsTo()", x.turnsTo(), 1);
        Check.refused(x, "turnAt(0)", x.turnAt(0), 1);
        Check.refused(x, "bestTurn()", x.bestTurn(), 1);
        Check.refused(x, "can(0, 0)", x.can(0, 0), 1);
        Check.refused(x, "made(0)", x.made(0), 1);
        Check.refused(x, "made(5)", x.made(5), 1);
        Check.refused(x, "madeAt(0, 0)", x.madeAt(0, 0), 1);
        Check.refused(x, "fewestMade()", x.fewestMade(), 1);
        Check.refused(x, "same(0)", x.same(0), 1);
    }

    private static void right() {
        MirrorTube x = Check.told("tube rolls 0;bit a plain x at 1;bit b glued x at 2;bit c light x at 3;"
                + "want b at 2;want c at 3;want a at 2");
        Check.answered(x, "right()", x.right(), 6);
        x.turn(1);
        Check.answered(x, "right()", x.right(), 3);
        MirrorTube y = Check.told("tube rolls 0;bit a plain x at 1");
        Check.answered(y, "right() without a wanted one", y.right(), 0);
    }

    private static void rowIs(MirrorTube x, int... row) {
        Check.answered(x, "turnsTo()", x.turnsTo(), row.length);
        for (int i = 0; i < row.length; i++) {
            Check.answered(x, "turnAt(" + i + ")", x.turnAt(i), row[i] + 3);
        }
        Check.refused(x, "turnAt(-1)", x.turnAt(-1), 1);
        Check.refused(x, "turnAt(" + row.length + ")", x.turnAt(row.length), 1);
    }

    private static void toWant() {
        rowIs(Check.told("tube rolls 0;bit a plain x at 1"));
        rowIs(Check.told("tube rolls 0;bit a plain x at 1;want a at 1"));
        rowIs(Check.told("tube rolls 0;bit a plain x at 1;want a at 10"), -3);
        rowIs(Check.told("tube rolls 0;bit a plain x at 0;want a at 6"), -3, -3);
        rowIs(Check.told("tube rolls 0;bit a plain x at 0;want a at 7"), -3, -2);
        // By light bits half the way is enough: 6 cells are 3 clicks, forth as well as back.
        rowIs(Check.told("tube rolls 0;bit a light x at 0;want a at 6"), -3);
        rowIs(Check.told("tube rolls 0;bit a light x at 0;bit b plain x at 0;want a at 6;want b at 3"), 3);
        // 1 click brings the heavy one nowhere, so it takes a 2 and a -1, the -1 first.
        rowIs(Check.told("tube rolls 0;bit h heavy x at 0;bit p plain x at 0;want h at 1;want p at 1"), -1, 2);
        // The heavy one four on, the plain one where it is: 12 clicks in all, all threes.
        rowIs(Check.told("tube rolls 0;bit h heavy x at 0;bit p plain x at 0;want h at 4;want p at 0"), 3, 3, 3, 3);
        // Five twos.
        rowIs(Check.told("tube rolls 0;bit h heavy x at 0;bit p plain x at 0;want h at 5;want p at 10"), 2, 2, 2, 2, 2);
        MirrorTube x = Check.told("tube rolls 0;bit h heavy x at 0;want h at 6");
        Check.answered(x, "turnsTo(): 6 would be needed", x.turnsTo(), -2);
        Check.refused(x, "turnAt(0)", x.turnAt(0), 6);
        x.turn(2);
        rowIs(x, 2, 2, 2, 2, 2);
        MirrorTube y = Check.told("tube rolls 0;bit l light x at 0;want l at 1");
        Check.answered(y, "turnsTo(): a light one never", y.turnsTo(), -2);
        Check.refused(y, "turnAt(0)", y.turnAt(0), 6);
    }

    private static void bestTurn() {
        MirrorTube x = Check.told("tube rolls 0;bit a plain x at 0;bit b plain x at 1;bit c glued x at 2;"
                + "want a at 2;want b at 3;want c at 2");
        Check.answered(x, "bestTurn()", x.bestTurn(), 5);
        x.turn(2);
        Check.answered(x, "bestTurn(): 0, too", x.bestTurn(), 3);
        MirrorTube y = Check.told("tube rolls 0;bit a plain x at 0;bit b light x at 0;want a at 3;want b at 10");
        Check.answered(y, "bestTurn(): -1 ahead of 3", y.bestTurn(), 2);
        MirrorTube far = Check.told("tube rolls 0;bit a plain x at 0;want a at 3");
        Check.answered(far, "bestTurn(): 3", far.bestTurn(), 6);
        MirrorTube z = Check.told("tube rolls 0;bit a plain x at 0");
        Check.answered(z, "bestTurn() without a wanted one", z.bestTurn(), 0);
    }

    private static void can() {
        MirrorTube x = Check.told("tube rolls 0;bit l light x at 3;bit p plain x at 3;bit h heavy x at 3;bit g glued x at 3");
        for (int cell = 0; cell < 12; cell++) {
            Check.answered(x, "can(0, " + cell + ")", x.can(0, cell), cell % 2);
            Check.answered(x, "can(1, " + cell + ")", x.can(1, cell), 1);
            Check.answered(x, "can(2, " + cell + ")", x.can(2, cell), 1);
            Check.answered(x, "can(3, " + cell + ")", x.can(3, cell), cell == 3 ? 1 : 0);
        }
        Check.refused(x, "can(0, -1)", x.can(0, -1), 2);
        Check.refused(x, "can(0, 12)", x.can(0, 12), 2);
        Check.refused(x, "can(4, 12): 1 ahead of 2", x.can(4, 12), 1);
        Check.refused(x, "can(-1, 0)", x.can(-1, 0), 1);
    }

    private static void made() {
        MirrorTube free = Check.told("tube rolls 0;bit a plain x at 0");
        int[] all = {1, 6, 36, 216, 1296};
        for (int n = 0; n <= 4; n++) {
            Check.answered(free, "made(" + n + ")", free.made(n), all[n]);
            Check.refused(free, "madeAt", free.madeAt(n, all[n]), 1);
            Check.refused(free, "madeAt", free.madeAt(n, -1), 1);
        }
        int[] digits = {0, 1, 2, 4, 5, 6};
        for (int i = 0; i < 36; i++) {
            Check.answered(free, "madeAt(2, " + i + ")", free.madeAt(2, i), 10 * digits[i / 6] + digits[i % 6]);
        }
        Check.answered(free, "madeAt(0, 0)", free.madeAt(0, 0), 0);
        Check.answered(free, "madeAt(4, 1295)", free.madeAt(4, 1295), 6666);
        Check.refused(free, "made(-1)", free.made(-1), 2);
        Check.refused(free, "made(5)", free.made(5), 2);
        Check.refused(free, "madeAt(-1, 0)", free.madeAt(-1, 0), 2);
        Check.refused(free, "madeAt(5, 0)", free.madeAt(5, 0), 2);
        MirrorTube x = Check.told("tube rolls 0;bit p plain x at 0;bit h heavy x at 0;bit g glued x at 1;"
                + "after p at 3;after h at 2");
        Check.answered(x, "made(1)", x.made(1), 0);
        // Sum 3 with two twos or threes more forth than back: 2 + 2 - 1 in three turns, for one.
        Check.answered(x, "fewestMade()", x.fewestMade(), 3);
        Check.answered(x, "made(3)", x.made(3), 3);
        Check.answered(x, "madeAt(3, 0)", x.madeAt(3, 0), 255);
        Check.answered(x, "madeAt(3, 1)", x.madeAt(3, 1), 525);
        Check.answered(x, "madeAt(3, 2)", x.madeAt(3, 2), 552);
        Check.refused(x, "madeAt(3, 3)", x.madeAt(3, 3), 1);
        x.turn(2);
        Check.answered(x, "made(3): from where they lay as told", x.made(3), 3);
        MirrorTube never = Check.told("tube rolls 0;bit g glued x at 1;after g at 2");
        Check.answered(never, "fewestMade()", never.fewestMade(), -2);
        Check.answered(never, "made(4)", never.made(4), 0);
        Check.refused(never, "madeAt(4, 0)", never.madeAt(4, 0), 1);
        MirrorTube still = Check.told("tube rolls 0;bit g glued x at 1;after g at 1");
        Check.answered(still, "fewestMade()", still.fewestMade(), 0);
    }

    private static void same() {
        MirrorTube glued = Check.told("tube rolls 0;bit g glued x at 1");
        Check.answered(glued, "same(4)", glued.same(4), 1296);
        MirrorTube plain = Check.told("tube rolls 0;bit p plain x at 1");
        Check.answered(plain, "same(0)", plain.same(0), 1);
        Check.answered(plain, "same(1)", plain.same(1), 0);
        Check.answered(plain, "same(2)", plain.same(2), 6);
        MirrorTube light = Check.told("tube rolls 0;bit l light x at 1");
        Check.answered(light, "same(2): 6 clicks, too", light.same(2), 8);
        MirrorTube heavy = Check.told("tube rolls 0;bit h heavy x at 1");
        Check.answered(heavy, "same(1): by 1 and -1", heavy.same(1), 2);
        Check.answered(heavy, "same(2)", heavy.same(2), 12);
        heavy.turn(3);
        Check.answered(heavy, "same(2)", heavy.same(2), 12);
        Check.refused(heavy, "same(-1)", heavy.same(-1), 2);
        Check.refused(heavy, "same(5)", heavy.same(5), 2);
    }
}
