/** Promise 5: step, and the first part of a second. */
final class StepTest {
    public static void main(String[] args) {
        Check check = new Check();
        heatsByEqualParts(check);
        oneStepFollowsAnother(check);
        toldLateOrEarly(check);
        thirtyTwoAreAll(check);
        stepsGoneByStillCount(check);
        wrongInputsAreRefused(check);
        check.end();
    }

    private static MashEnzymes at(double degrees) {
        MashEnzymes mash = new MashEnzymes();
        told(mash, degrees);
        return mash;
    }

    private static void told(MashEnzymes mash, double degrees) {
        mash.grain(4, 0.5, 0);
        mash.liquor(10, degrees, 5.5);
    }

    private static void heatsByEqualParts(Check check) {
        MashEnzymes mash = at(40);
        check.is("step(4, 60)", mash.step(4, 60), true);
        for (int second = 1; second <= 4; second++) {
            mash.run(1);
            check.is("degrees() at second " + second, mash.degrees(), 40 + 5 * second);
        }
        mash.run(10);
        check.is("degrees() after the last step", mash.degrees(), 60);
    }

    private static void oneStepFollowsAnother(Check check) {
        MashEnzymes mash = at(40);
        mash.step(2, 60);
        mash.step(4, 50);
        mash.step(5, 100);
        mash.step(6, 0);
        double[] due = {50, 60, 55, 50, 100, 0, 0};
        for (double degrees : due) {
            int second = mash.run(1);
            check.is("degrees() at second " + second, mash.degrees(), degrees);
        }
    }

    private static void toldLateOrEarly(Check check) {
        MashEnzymes early = new MashEnzymes();
        check.is("step(2, 60) of an empty mash", early.step(2, 60), true);
        told(early, 40);
        early.run(1);
        check.is("degrees() half way", early.degrees(), 50);
        early.liquor(10, 0, 5.5);
        early.run(1);
        check.is("degrees() is met in spite of liquor", early.degrees(), 60);
        check.is("step(2, 70) at second 2", early.step(2, 70), false);
        check.is("step(3, 70) at second 2", early.step(3, 70), true);
        early.run(1);
        check.is("degrees() of the late step", early.degrees(), 70);
        check.is("step(1000000, 0)", early.step(1_000_000, 0), true);
        early.run(1);
        check.is("degrees() far from the step", early.degrees(), 70 + (0 - 70.0) / (1_000_000 - 3));
    }

    private static void thirtyTwoAreAll(Check check) {
        MashEnzymes mash = at(40);
        for (int second = 1; second <= 32; second++) {
            check.is("step " + second, mash.step(second * 10, second), true);
        }
        check.is("step 33", mash.step(330, 50), false);
        mash.run(320);
        check.is("degrees() of the 32nd", mash.degrees(), 32);
        mash.run(10);
        check.is("degrees() without a 33rd", mash.degrees(), 32);
    }

    private static void stepsGoneByStillCount(Check check) {
        MashEnzymes mash = at(40);
        for (int second = 1; second <= 32; second++) {
            check.is("step " + second, mash.step(second, 50), true);
            mash.run(1);
        }
        check.is("step 33", mash.step(1000, 60), false);
        mash.run(968);
        check.is("degrees()", mash.degrees(), 50);
    }

    private static void wrongInputsAreRefused(Check check) {
        for (int second : new int[] {0, -1, Integer.MIN_VALUE, 5, 29, 30, 1_000_001, Integer.MAX_VALUE}) {
            refused(check, second, 70);
        }
        double inf = Double.POSITIVE_INFINITY;
        for (double degrees : new double[] {-Double.MIN_VALUE, -1, Math.nextUp(100.0), inf, -inf, Double.NaN}) {
            refused(check, 50, degrees);
        }
    }

    private static void refused(Check check, int second, double degrees) {
        String call = "step(" + second + ", " + degrees + ")";
        Check.Calls before = mash -> {
            told(mash, 40);
            mash.step(30, 60);
            mash.run(5);
        };
        MashEnzymes mash = new MashEnzymes();
        before.on(mash);
        check.is(call, mash.step(second, degrees), false);
        check.changesNothing(call, before, again -> again.step(second, degrees));
    }
}
