/** Promise 6: run, and what a second does by each of the rows. */
final class RunTest {
    private static final double[] MARKS = {0, 40, 50, 60, 65, 70, 75, 80, 90};
    private static final int[][] RATES = {
        {0, 1, 2, 4, 6, 8, 7, 4, 0},
        {0, 2, 4, 8, 7, 3, 1, 0, 0},
        {0, 2, 6, 8, 4, 1, 0, 0, 0},
        {0, 4, 8, 6, 3, 1, 0, 0, 0}};
    private static final int[] GELLING = {0, 0, 2, 16, 64, 128, 160, 200, 255};
    private static final int[][] DECAYS = {
        {0, 0, 0, 0, 1, 4, 16, 64, 255},
        {0, 0, 0, 4, 16, 64, 128, 200, 255},
        {0, 0, 1, 16, 64, 128, 200, 255, 255},
        {0, 0, 4, 32, 64, 128, 200, 255, 255}};

    public static void main(String[] args) {
        Check check = new Check();
        for (int mark = 0; mark < MARKS.length; mark++) {
            allRows(check, MARKS[mark], mark, mark);
        }
        for (int mark = 0; mark + 1 < MARKS.length; mark++) {
            allRows(check, (MARKS[mark] + MARKS[mark + 1]) / 2, mark, mark + 1);
        }
        allRows(check, 95, 8, 8);
        allRows(check, 100, 8, 8);
        quarterOfTheWay(check);
        oneWholeSecond(check);
        proteinIsUsedUp(check);
        littleWaterHolds(check);
        noWaterAndNoEnzymes(check);
        secondsAddUp(check);
        limitsOfTime(check);
        wrongInputsAreRefused(check);
        check.end();
    }

    /** All values at so many degrees, which lie on a mark or half way between two. */
    private static void allRows(Check check, double degrees, int mark, int nextMark) {
        for (int e = 0; e < 4; e++) {
            decay(check, e, degrees, (DECAYS[e][mark] + DECAYS[e][nextMark]) / 2.0);
            rate(check, e, degrees, (RATES[e][mark] + RATES[e][nextMark]) / 2.0);
        }
        gelling(check, degrees, (GELLING[mark] + GELLING[nextMark]) / 2.0);
    }

    private static void decay(Check check, int e, double degrees, double parts) {
        MashEnzymes mash = new MashEnzymes();
        mash.grain(1, 0, 1);
        mash.liquor(8, degrees, 5.5);
        mash.enzyme(e, 512);
        mash.run(1);
        check.is("decay " + e + " at " + degrees, mash.enzymeLeft(e), 512 - parts / 8);
    }

    // With eight of the enzyme and eight of water, x is the rate in eighths itself.
    private static void rate(Check check, int e, double degrees, double eighths) {
        MashEnzymes mash = e == 0 ? gelled() : e == 3 ? raw() : dextrins();
        int second = mash.run(0);
        double gelled = mash.starch();
        double dextrins = mash.sugar(3);
        mash.step(second + 1, degrees);
        mash.enzyme(e, 8);
        mash.run(1);
        check.is("degrees()", mash.degrees(), degrees);
        double part = eighths / (eighths + 8) * 0.0625;
        String name = "rate " + e + " at " + degrees;
        if (e == 0) {
            check.is(name + ", maltotriose", mash.sugar(2), gelled * part * 0.25);
            check.is(name + ", dextrins", mash.sugar(3), gelled * part * 0.75);
        } else if (e == 1) {
            check.is(name + ", maltose", mash.sugar(1), dextrins * part * 1.0625);
            check.is(name + ", water", mash.water(), 8 - dextrins * part * 0.0625);
            check.is(name + ", dextrins", mash.sugar(3), dextrins - dextrins * part);
        } else if (e == 2) {
            check.is(name + ", glucose", mash.sugar(0), dextrins * part * 1.125);
            check.is(name + ", water", mash.water(), 8 - dextrins * part * 0.125);
            check.is(name + ", dextrins", mash.sugar(3), dextrins - dextrins * part);
        } else {
            check.is(name + ", amino acids", mash.sugar(4), 0.5 * part);
        }
    }

    private static MashEnzymes raw() {
        MashEnzymes mash = new MashEnzymes();
        mash.grain(8, 0.125, 1);
        mash.liquor(8, 80, 5.5);
        return mash;
    }

    private static MashEnzymes gelled() {
        MashEnzymes mash = raw();
        mash.run(4000);
        return mash;
    }

    /** Starch turned by alpha, which has then decayed too far to split anything more. */
    private static MashEnzymes dextrins() {
        MashEnzymes mash = raw();
        mash.enzyme(0, 1000);
        mash.run(100_000);
        return mash;
    }

    // One second to gel, then a second at 70 degrees, where alpha's rate is 1, to show how much there is.
    private static void gelling(Check check, double degrees, double parts) {
        MashEnzymes mash = new MashEnzymes();
        mash.grain(8, 0.5, 1);
        mash.liquor(8, degrees, 5.5);
        mash.run(1);
        check.is("starch() is still whole at " + degrees, mash.starch(), 4);
        mash.enzyme(0, 8);
        mash.step(2, 70);
        mash.run(1);
        double first = 4 * (parts / 4096);
        double gelled = first + (4 - first) * (128 / 4096.0);
        check.is("gelling at " + degrees, mash.sugar(2), gelled * 0.03125 * 0.25);
    }

    private static void quarterOfTheWay(Check check) {
        MashEnzymes mash = new MashEnzymes();
        mash.grain(1, 0, 1);
        mash.liquor(8, 62.3, 5.5);
        mash.enzyme(1, 500);
        mash.run(1);
        double u = 4 / 4096.0;
        double v = 16 / 4096.0;
        check.is("decay 1 at 62.3", mash.enzymeLeft(1), 500 - 500 * (u + (v - u) * (62.3 - 60) / (65 - 60)));
    }

    // 60 degrees, acidity 5.5, 16 of water, and enzymes that give x = 16, 16, 16 and 12.
    private static void oneWholeSecond(Check check) {
        MashEnzymes mash = new MashEnzymes();
        mash.grain(64, 1, 1);
        mash.liquor(16, 60, 5.5);
        mash.enzyme(0, 32);
        mash.enzyme(1, 16);
        mash.enzyme(2, 16);
        mash.enzyme(3, 16);
        check.is("run(1)", mash.run(1), 1);
        double f = 0.03125;
        double gelled = 64 * (16 / 4096.0);
        double x = gelled * f;
        double y = x * 0.75 * f;
        double z = (x * 0.75 - y) * f;
        check.is("starch()", mash.starch(), 64 - gelled + (gelled - x));
        check.is("sugar(0)", mash.sugar(0), z * 1.125);
        check.is("sugar(1)", mash.sugar(1), y * 1.0625);
        check.is("sugar(2)", mash.sugar(2), x * 0.25);
        check.is("sugar(3)", mash.sugar(3), x * 0.75 - y - z);
        check.is("sugar(4)", mash.sugar(4), 4 * (12.0 / 28 * 0.0625));
        check.is("water()", mash.water(), 16 - y * 0.0625 - z * 0.125);
        check.is("enzymeLeft(0)", mash.enzymeLeft(0), 32);
        check.is("enzymeLeft(1)", mash.enzymeLeft(1), 16 - 16 * 4 / 4096.0);
        check.is("enzymeLeft(2)", mash.enzymeLeft(2), 16 - 16 * 16 / 4096.0);
        check.is("enzymeLeft(3)", mash.enzymeLeft(3), 16 - 16 * 32 / 4096.0);
    }

    // At 40 degrees no enzyme decays, so each second splits the same part of what is left.
    private static void proteinIsUsedUp(Check check) {
        MashEnzymes mash = new MashEnzymes();
        mash.grain(16, 0, 1);
        mash.liquor(8, 40, 5.5);
        mash.enzyme(3, 16);
        double protein = 1;
        double acids = 0;
        for (int second = 1; second <= 20; second++) {
            mash.run(1);
            double split = protein * 0.03125;
            protein = protein - split;
            acids = acids + split;
            check.is("sugar(4) at second " + second, mash.sugar(4), acids);
        }
    }

    // At most eight of dextrins per water are split by beta, two by limit: half, or three quarters, of the water stay.
    private static void littleWaterHolds(Check check) {
        for (int e = 1; e <= 2; e++) {
            MashEnzymes mash = new MashEnzymes();
            mash.grain(1000, 1, 1);
            mash.liquor(0.0078125, 60, 5.5);
            mash.enzyme(0, 1000);
            mash.run(100_000);
            mash.enzyme(e, 1000);
            double dextrins = mash.sugar(3);
            mash.run(1);
            double water = 0.0078125;
            check.is("water() held by enzyme " + e, mash.water(), e == 1 ? water / 2 : water * 0.75);
            check.is("sugar held by enzyme " + e, e == 1 ? mash.sugar(1) : mash.sugar(0),
                e == 1 ? water * 8 * 1.0625 : water * 2 * 1.125);
            check.is("dextrins held by enzyme " + e, mash.sugar(3), dextrins - water * (e == 1 ? 8 : 2));
        }
    }

    // Three quarters of the least double round to all of it, so no water stays: nothing may divide by it.
    private static void noWaterAndNoEnzymes(Check check) {
        MashEnzymes mash = new MashEnzymes();
        mash.grain(8, 0.5, 1);
        mash.liquor(Double.MIN_VALUE, 70, 5.5);
        mash.take(0.75);
        check.is("water()", mash.water(), 0);
        check.is("run(5)", mash.run(5), 5);
        check.is("starch()", mash.starch(), 1);
        for (int kind = 0; kind < 5; kind++) {
            check.is("sugar(" + kind + ") without water and enzymes", mash.sugar(kind), 0);
        }
    }

    private static void secondsAddUp(Check check) {
        MashEnzymes one = new MashEnzymes();
        MashEnzymes many = new MashEnzymes();
        for (MashEnzymes mash : new MashEnzymes[] {one, many}) {
            mash.grain(10, 0.6, 0);
            mash.liquor(25, 52, 5.3);
            mash.step(90, 63);
            mash.step(200, 78);
        }
        check.is("run(250)", one.run(250), 250);
        for (int second = 1; second <= 250; second++) {
            check.is("run(1)", many.run(1), second);
        }
        check.same("250 seconds in one and in many", one, many);
        check.is("run(0)", one.run(0), 250);
        check.same("run(0)", one, many);
    }

    private static void limitsOfTime(Check check) {
        MashEnzymes mash = raw();
        for (int i = 1; i <= 9; i++) {
            check.is("run(100000)", mash.run(100_000), i * 100_000);
        }
        check.is("run(99999)", mash.run(99_999), 999_999);
        check.is("run(2) beyond the last second", mash.run(2), MashEnzymes.NONE);
        check.is("run(100000) beyond the last second", mash.run(100_000), MashEnzymes.NONE);
        check.is("run(1) to the last second", mash.run(1), 1_000_000);
        check.is("run(1) beyond it", mash.run(1), MashEnzymes.NONE);
        check.is("run(0) at the last second", mash.run(0), 1_000_000);
        check.is("step(1000000, 50) at the last second", mash.step(1_000_000, 50), false);
    }

    private static void wrongInputsAreRefused(Check check) {
        for (int seconds : new int[] {-1, 100_001, Integer.MIN_VALUE, Integer.MAX_VALUE}) {
            check.is("run(" + seconds + ")", raw().run(seconds), MashEnzymes.NONE);
            check.changesNothing("run(" + seconds + ")", mash -> mash.grain(1, 1, 0), mash -> mash.run(seconds));
            Check.Calls before = mash -> {
                mash.grain(8, 0.5, 0);
                mash.liquor(20, 64, 5.5);
                mash.run(10);
            };
            check.changesNothing("run(" + seconds + ")", before, mash -> mash.run(seconds));
        }
        Check.Calls heated = mash -> {
            mash.grain(8, 0.5, 0);
            mash.step(5, 60);
        };
        check.changesNothing("run(3) of an empty mash", heated, mash -> mash.run(3));
        check.is("run(3) without grain", emptyAnswer(mash -> mash.liquor(1, 50, 5.5)), MashEnzymes.NONE);
        check.is("run(3) without liquor", emptyAnswer(mash -> mash.grain(1, 0.5, 0)), MashEnzymes.NONE);
    }

    private static int emptyAnswer(Check.Calls calls) {
        MashEnzymes mash = new MashEnzymes();
        calls.on(mash);
        return mash.run(3);
    }
}
