/** Promises 26 to 32: joins, alike, which, surely, look, lookLeaves, judge. */
public final class CountriesTest {
    private CountriesTest() {
    }

    public static void main(String[] args) {
        noTube();
        joinsAndAlike();
        which();
        look();
        judge();
        Check.end();
    }

    private static void noTube() {
        MirrorTube x = new MirrorTube();
        Check.refused(x, "joins(0)", x.joins(0), 1);
        Check.refused(x, "joins(6)", x.joins(6), 1);
        Check.refused(x, "alike(0, 0)", x.alike(0, 0), 1);
        Check.refused(x, "which()", x.which(), 1);
        Check.refused(x, "surely()", x.surely(), 1);
        Check.refused(x, "look()", x.look(), 1);
        Check.refused(x, "lookLeaves()", x.lookLeaves(), 1);
        Check.refused(x, "judge(0)", x.judge(0), 1);
        Check.refused(x, "judge(6)", x.judge(6), 1);
    }

    private static void joinsAndAlike() {
        MirrorTube x = Check.told("tube rolls 0;bit a glued x at 0;bit b glued x at 11;bit c light x at 0");
        // The mirrors of countries 0 to 5 stand at the tube's cells 0 and 11, 1 and 2, 8 and 7, 5 and 6, 4 and 3, 9 and 10.
        int[] due = {3, 0, 0, 0, 0, 0};
        for (int j = 0; j < 6; j++) {
            Check.answered(x, "joins(" + j + ")", x.joins(j), due[j]);
        }
        x.turn(1);
        Check.answered(x, "joins(1)", x.joins(1), 4);
        Check.refused(x, "joins(6)", x.joins(6), 2);
        Check.refused(x, "joins(-1)", x.joins(-1), 2);
        MirrorTube y = Check.told("tube rolls 0;bit a glued x at 0;bit b glued x at 4");
        for (int j = 0; j < 6; j++) {
            Check.answered(y, "alike", y.alike(j, j), 12);
        }
        // Country 0 shows a in 0, b in 4; country 2 a in 4, b in 8: none alike there, 9 empty in both.
        Check.answered(y, "alike(0, 2)", y.alike(0, 2), 9);
        Check.answered(y, "alike(2, 0)", y.alike(2, 0), 9);
        // Country 1 shows a in 1 and b in 9.
        Check.answered(y, "alike(0, 1)", y.alike(0, 1), 8);
        Check.refused(y, "alike(6, 0)", y.alike(6, 0), 2);
        Check.refused(y, "alike(0, 6)", y.alike(0, 6), 2);
        Check.refused(y, "alike(-1, 0)", y.alike(-1, 0), 2);
        Check.refused(y, "alike(0, -1)", y.alike(0, -1), 2);
    }

    private static void which() {
        // Red lies in the tube's cells 0 and 4, so cell 4 shows it in country 0 (cell 4) and in country 2 (cell 0).
        MirrorTube x = Check.told("tube rolls 0;bit a plain red at 0;bit b plain red at 4;met 4 red");
        Check.answered(x, "which()", x.which(), 5);
        Check.answered(x, "surely(): two", x.surely(), -2);
        x.turn(-2);
        // Cells 10 and 2: country 4 shows cell 8, country 0 cell 4, the others 9, 0, 1 and 5 in cell 4.
        Check.answered(x, "which()", x.which(), 0);
        Check.answered(x, "surely(): none", x.surely(), -2);
        x.turn(2);
        MirrorTube y = Check.told("tube rolls 0;bit a plain red at 0;bit b plain red at 4;met 4 red;met 8 red");
        Check.answered(y, "which()", y.which(), 4);
        Check.answered(y, "surely()", y.surely(), 2);
        MirrorTube z = Check.told("tube rolls 0;bit a plain red at 0;bit b heavy blue at 0;met 0 red");
        Check.answered(z, "which(): what lies under is not seen", z.which(), 0);
        MirrorTube w = Check.told("tube rolls 0;bit a plain red at 0;met 5 none");
        Check.answered(w, "which(): a colour that no bit has", w.which(), 0);
    }

    private static void look() {
        // Cell 0 shows the tube's cells 0, 1, 8, 5, 4, 9 in the countries 0 to 5; cell 1 shows 1, 0, 9, 4, 5, 8.
        MirrorTube x = Check.told("tube rolls 0;bit a glued red at 1;bit b glued red at 8;bit c glued blue at 5;"
                + "bit d glued gold at 4;bit e glued gold at 9");
        Check.answered(x, "look()", x.look(), 0);
        Check.answered(x, "lookLeaves()", x.lookLeaves(), 2);
        MirrorTube y = Check.told("tube rolls 0;bit a glued red at 3;bit b glued blue at 7");
        // Cell 2 shows 2, 11, 10, 3, 6, 7: there red and blue part the most; cells 0 and 1 show neither.
        Check.answered(y, "look()", y.look(), 2);
        Check.answered(y, "lookLeaves()", y.lookLeaves(), 4);
        MirrorTube z = Check.told("tube rolls 0;bit a glued red at 3;met 3 blue");
        Check.answered(z, "look()", z.look(), -2);
        Check.answered(z, "lookLeaves()", z.lookLeaves(), -2);
        MirrorTube one = Check.told("tube rolls 0;bit a glued red at 3;met 3 red");
        Check.answered(one, "look()", one.look(), 0);
        Check.answered(one, "lookLeaves()", one.lookLeaves(), 1);
    }

    private static void judge() {
        MirrorTube x = Check.told("tube rolls 0;bit a plain red at 0;bit b plain blue at 4;met 0 red;met 4 blue;met 8 red");
        Check.answered(x, "judge(0)", x.judge(0), 2);
        Check.answered(x, "judge(1)", x.judge(1), 0);
        MirrorTube y = Check.told("tube rolls 0;bit a plain red at 0;bit b plain blue at 4;met 4 red;met 0 red;met 8 blue");
        Check.answered(y, "judge(2): the second as told", y.judge(2), 1);
        MirrorTube z = Check.told("tube rolls 0;bit a plain red at 0;met 0 red");
        Check.answered(z, "judge(0)", z.judge(0), -2);
        Check.refused(z, "judge(6)", z.judge(6), 2);
        Check.refused(z, "judge(-1)", z.judge(-1), 2);
    }
}
