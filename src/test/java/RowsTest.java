/** The terms: the nine rows, at their degrees, between them, and next to the first and the last of them. */
final class RowsTest {
    private static final int[] MARKS = {0, 40, 50, 60, 65, 70, 75, 80, 90};
    private static final int LAST = 8;
    private static final int[][] RATES = {
        {0, 1, 2, 4, 6, 8, 7, 4, 0},
        {0, 2, 4, 8, 7, 3, 1, 0, 0},
        {0, 2, 6, 8, 4, 1, 0, 0, 0},
        {0, 4, 8, 6, 3, 1, 0, 0, 0}};
    private static final int[] GELLING = {0, 0, 2, 16, 64, 128, 160, 200, 255};
    private static final int[][] DECAYS = {
        {0, 0, 0, 0, 1, 4, 16, 64, 255},
        {0, 0, 0, 4, 16, 64, 128, 200, 255},
        {0, 0, 1, 16, 64, 128, 200, 255, 255},
        {0, 0, 4, 32, 64, 128, 200, 255, 255}};
    // Small enough to lie next to 0, and large enough for steps to reach it without rounding.
    private static final double NEXT_TO_0 = 1.0 / (1L << 40);

    public static void main(String[] args) {
        Check check = new Check();
        theFirstDegrees(check);
        theLastDegrees(check);
        beyondTheLastDegrees(check);
        onEachMark(check);
        justBelowEachMark(check);
        justAboveEachMark(check);
        betweenTheMarks(check);
        theMarksAreMetByAStep(check);
        check.end();
    }

    private static void theFirstDegrees(Check check) {
        allRows(check, 0, 0);
        allRows(check, NEXT_TO_0, 0);
    }

    private static void theLastDegrees(Check check) {
        allRows(check, Math.nextDown(90.0), LAST - 1);
        allRows(check, 90, LAST);
        allRows(check, Math.nextUp(90.0), LAST);
    }

    private static void beyondTheLastDegrees(Check check) {
        allRows(check, 95, LAST);
        allRows(check, Math.nextDown(100.0), LAST);
        allRows(check, 100, LAST);
    }

    private static void onEachMark(Check check) {
        for (int mark = 0; mark <= LAST; mark++) {
            allRows(check, MARKS[mark], mark);
            exactly(check, mark);
        }
    }

    private static void justBelowEachMark(Check check) {
        for (int mark = 1; mark <= LAST; mark++) {
            allRows(check, Math.nextDown((double) MARKS[mark]), mark - 1);
        }
    }

    private static void justAboveEachMark(Check check) {
        for (int mark = 1; mark <= LAST; mark++) {
            allRows(check, Math.nextUp((double) MARKS[mark]), mark);
        }
    }

    private static void betweenTheMarks(Check check) {
        for (int mark = 0; mark < LAST; mark++) {
            allRows(check, (MARKS[mark] + MARKS[mark + 1]) / 2.0, mark);
            allRows(check, MARKS[mark] + 1.25, mark);
            allRows(check, MARKS[mark + 1] - 1.25, mark);
        }
        decay(check, 1, 62.3, 3);
    }

    // The row goes on from one mark to the next while a step heats through it.
    private static void theMarksAreMetByAStep(Check check) {
        MashEnzymes mash = new MashEnzymes();
        mash.grain(1, 0, 1);
        mash.liquor(8, 85, 5.5);
        mash.enzyme(0, 512);
        mash.step(3, 100);
        double left = 512;
        double[] degrees = {90, 95, 100};
        for (double at : degrees) {
            mash.run(1);
            check.near("degrees()", mash.degrees(), at);
            left = left - left * (255 / 4096.0);
            check.is("decay 0 from 90 on, at " + at, mash.enzymeLeft(0), left);
        }
        mash.step(4, 80);
        mash.run(1);
        check.is("degrees() cooled", mash.degrees(), 80);
        left = left - left * (64 / 4096.0);
        check.is("decay 0 cooled to 80", mash.enzymeLeft(0), left);
    }

    /** The value of a row by the document's words, with the mark that is due as p. */
    private static double value(int[] row, double parts, double degrees, int mark) {
        double u = row[mark] / parts;
        if (mark == LAST) {
            return u;
        }
        double v = row[mark + 1] / parts;
        double p = MARKS[mark];
        double n = MARKS[mark + 1];
        return u + (v - u) * (degrees - p) / (n - p);
    }

    private static void allRows(Check check, double degrees, int mark) {
        for (int e = 0; e < 4; e++) {
            decay(check, e, degrees, mark);
            rate(check, e, degrees, mark);
        }
        gelling(check, degrees, value(GELLING, 4096, degrees, mark));
    }

    // On a mark the value is the row's own, whatever the formula makes of it.
    private static void exactly(Check check, int mark) {
        for (int e = 0; e < 4; e++) {
            decay(check, e, (double) MARKS[mark], DECAYS[e][mark] / 4096.0);
            rate(check, e, (double) MARKS[mark], RATES[e][mark] / 8.0);
        }
        gelling(check, MARKS[mark], GELLING[mark] / 4096.0);
    }

    private static void decay(Check check, int e, double degrees, int mark) {
        decay(check, e, degrees, value(DECAYS[e], 4096, degrees, mark));
    }

    private static void decay(Check check, int e, double degrees, double value) {
        MashEnzymes mash = new MashEnzymes();
        mash.grain(1, 0, 1);
        mash.liquor(8, degrees, 5.5);
        mash.enzyme(e, 512);
        mash.run(1);
        check.is("decay " + e + " at " + degrees, mash.enzymeLeft(e), 512 - 512 * value);
    }

    private static void rate(Check check, int e, double degrees, int mark) {
        rate(check, e, degrees, value(RATES[e], 8, degrees, mark));
    }

    // Eight of the enzyme meet eight of water.
    private static void rate(Check check, int e, double degrees, double value) {
        MashEnzymes mash = e == 0 ? gelled() : e == 3 ? raw() : dextrins();
        int second = mash.run(0);
        double gelled = mash.starch();
        double dextrins = mash.sugar(3);
        mash.step(second + 1, degrees);
        mash.enzyme(e, 8);
        mash.run(1);
        check.is("degrees()", mash.degrees(), degrees);
        double x = 8 * value;
        double part = x > 0 ? x / (x + 8) * 0.0625 : 0;
        String name = "rate " + e + " at " + degrees;
        if (e == 0) {
            check.is(name + ", maltotriose", mash.sugar(2), gelled * part * 0.25);
            check.is(name + ", dextrins", mash.sugar(3), gelled * part * 0.75);
        } else if (e == 1) {
            check.is(name + ", maltose", mash.sugar(1), dextrins * part * 1.0625);
            check.is(name + ", water", mash.water(), 8 - dextrins * part * 0.0625);
            check.is(name + ", dextrins", mash.sugar(3), dextrins - dextrins * part);
        } else if (e == 2) {
            check.is(name + ", glucose", mash.sugar(0), dextrins * part * 1.125);
            check.is(name + ", water", mash.water(), 8 - dextrins * part * 0.125);
            check.is(name + ", dextrins", mash.sugar(3), dextrins - dextrins * part);
        } else {
            check.is(name + ", amino acids", mash.sugar(4), 0.5 * part);
        }
    }

    private static MashEnzymes raw() {
        MashEnzymes mash = new MashEnzymes();
        mash.grain(8, 0.125, 1);
        mash.liquor(8, 80, 5.5);
        return mash;
    }

    private static MashEnzymes gelled() {
        MashEnzymes mash = raw();
        mash.run(4000);
        return mash;
    }

    /** Starch turned by alpha, which has then decayed too far to split anything more. */
    private static MashEnzymes dextrins() {
        MashEnzymes mash = raw();
        mash.enzyme(0, 1000);
        mash.run(100_000);
        return mash;
    }

    // One second to gel, then a second at 70 degrees, where alpha's rate is 1, to show how much there is.
    private static void gelling(Check check, double degrees, double value) {
        MashEnzymes mash = new MashEnzymes();
        mash.grain(8, 0.5, 1);
        mash.liquor(8, degrees, 5.5);
        mash.run(1);
        check.near("starch() is still whole at " + degrees, mash.starch(), 4);
        mash.enzyme(0, 8);
        mash.step(2, 70);
        mash.run(1);
        double first = 4 * value;
        double gelled = first + (4 - first) * (128 / 4096.0);
        check.is("gelling at " + degrees, mash.sugar(2), gelled * 0.03125 * 0.25);
    }
}
