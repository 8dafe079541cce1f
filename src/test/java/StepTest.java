/** Promise 5: step, and the first part of a second. */
final class StepTest {
    public static void main(String[] args) {
        Check check = new Check();
        heatsByEqualParts(check);
        oneStepFollowsAnother(check);
        toldLateOrEarly(check);
        thirtyTwoAreAll(check);
        thirtyTwoOfAnEmptyMash(check);
        stepsGoneByStillCount(check);
        refusedStepsDoNotCount(check);
        secondIsLaterThanNow(check);
        secondIsLaterThanAllSteps(check);
        aRefusedStepIsNotTheLatest(check);
        secondIsAtMostTheLast(check);
        theLastSecondIsMet(check);
        degreesAreAtLeastNothing(check);
        degreesAreAtMostHundred(check);
        aStepAtNowHasGoneBy(check);
        check.end();
    }

    private static MashEnzymes at(double degrees) {
        MashEnzymes mash = new MashEnzymes();
        told(mash, degrees);
        return mash;
    }

    private static void told(MashEnzymes mash, double degrees) {
        mash.grain(4, 0.5, 0);
        mash.liquor(10, degrees, 5.5);
    }

    private static void heatsByEqualParts(Check check) {
        MashEnzymes mash = at(40);
        check.is("step(4, 60)", mash.step(4, 60), true);
        for (int second = 1; second <= 4; second++) {
            mash.run(1);
            check.is("degrees() at second " + second, mash.degrees(), 40 + 5 * second);
        }
        mash.run(10);
        check.is("degrees() after the last step", mash.degrees(), 60);
    }

    private static void oneStepFollowsAnother(Check check) {
        MashEnzymes mash = at(40);
        mash.step(2, 60);
        mash.step(4, 50);
        mash.step(5, 100);
        mash.step(6, 0);
        double[] due = {50, 60, 55, 50, 100, 0, 0};
        for (double degrees : due) {
            int second = mash.run(1);
            check.is("degrees() at second " + second, mash.degrees(), degrees);
        }
    }

    private static void toldLateOrEarly(Check check) {
        MashEnzymes early = new MashEnzymes();
        check.is("step(2, 60) of an empty mash", early.step(2, 60), true);
        told(early, 40);
        early.run(1);
        check.is("degrees() half way", early.degrees(), 50);
        early.liquor(10, 0, 5.5);
        early.run(1);
        check.is("degrees() is met in spite of liquor", early.degrees(), 60);
        check.is("step(2, 70) at second 2", early.step(2, 70), false);
        check.is("step(3, 70) at second 2", early.step(3, 70), true);
        early.run(1);
        check.is("degrees() of the late step", early.degrees(), 70);
        check.is("step(1000000, 0)", early.step(1_000_000, 0), true);
        early.run(1);
        check.is("degrees() far from the step", early.degrees(), 70 + (0 - 70.0) / (1_000_000 - 3));
    }

    private static void thirtyTwoAreAll(Check check) {
        MashEnzymes mash = at(40);
        for (int second = 1; second <= 32; second++) {
            check.is("step " + second, mash.step(second * 10, second), true);
        }
        check.is("step 33", mash.step(330, 50), false);
        check.is("step 33 at the last second", mash.step(1_000_000, 50), false);
        mash.run(320);
        check.is("degrees() of the 32nd", mash.degrees(), 32);
        mash.run(10);
        check.is("degrees() without a 33rd", mash.degrees(), 32);
        check.refused("step 33", again -> {
            told(again, 40);
            States.thirtyTwoSteps(again);
        }, again -> again.step(33, 90), false);
    }

    private static void thirtyTwoOfAnEmptyMash(Check check) {
        MashEnzymes mash = new MashEnzymes();
        for (int second = 1; second <= 32; second++) {
            check.is("step " + second + " of an empty mash", mash.step(second, 50), true);
        }
        check.is("step 33 of an empty mash", mash.step(33, 50), false);
        check.refused("step 33 of an empty mash", States::thirtyTwoSteps, again -> again.step(33, 90), false);
    }

    private static void stepsGoneByStillCount(Check check) {
        MashEnzymes mash = at(40);
        for (int second = 1; second <= 32; second++) {
            check.is("step " + second, mash.step(second, 50), true);
            mash.run(1);
        }
        check.is("step 33", mash.step(1000, 60), false);
        mash.run(968);
        check.is("degrees()", mash.degrees(), 50);
    }

    private static void refusedStepsDoNotCount(Check check) {
        MashEnzymes mash = at(40);
        mash.step(5, 45);
        for (int i = 0; i < 40; i++) {
            mash.step(5, 50);
            mash.step(1_000_001, 50);
            mash.step(500, 101);
        }
        for (int second = 2; second <= 32; second++) {
            check.is("step " + second + " after refused ones", mash.step(second * 5, 50), true);
        }
        check.is("step 33 after refused ones", mash.step(165, 50), false);
    }

    private static void secondIsLaterThanNow(Check check) {
        check.is("step(1, 50) at second 0", at(40).step(1, 50), true);
        for (int second : new int[] {0, -1, -1_000_000, Integer.MIN_VALUE}) {
            refusedInEveryState(check, second, 50);
        }
        Check.Calls before = mash -> {
            told(mash, 40);
            mash.run(5);
        };
        for (int second : new int[] {5, 4, 1, 0, -1}) {
            check.refused("step(" + second + ", 70) at second 5", before, mash -> mash.step(second, 70), false);
        }
        MashEnzymes mash = new MashEnzymes();
        before.on(mash);
        check.is("step(6, 70) at second 5", mash.step(6, 70), true);
        mash.run(1);
        check.is("degrees() at second 6", mash.degrees(), 70);
    }

    private static void secondIsLaterThanAllSteps(Check check) {
        Check.Calls before = mash -> {
            told(mash, 40);
            mash.step(30, 60);
            mash.step(50, 64);
            mash.run(10);
        };
        for (int second : new int[] {50, 49, 31, 30, 29, 11, 10}) {
            check.refused("step(" + second + ", 70) with one at 50", before, mash -> mash.step(second, 70), false);
        }
        MashEnzymes mash = new MashEnzymes();
        before.on(mash);
        check.is("step(51, 70) with one at 50", mash.step(51, 70), true);
        mash.run(41);
        check.is("degrees() at second 51", mash.degrees(), 70);
    }

    // Had a refused step been kept as the latest one, the one after it could not be taken.
    private static void aRefusedStepIsNotTheLatest(Check check) {
        MashEnzymes mash = at(40);
        check.is("step(1000001, 50)", mash.step(1_000_001, 50), false);
        check.is("step(500, 101)", mash.step(500, 101), false);
        check.is("step(4, 60)", mash.step(4, 60), true);
        mash.run(2);
        check.is("degrees() half way", mash.degrees(), 50);
    }

    private static void secondIsAtMostTheLast(Check check) {
        MashEnzymes mash = at(40);
        check.is("step(999999, 50)", mash.step(999_999, 50), true);
        check.is("step(1000000, 60)", mash.step(1_000_000, 60), true);
        check.is("step(1000001, 60)", mash.step(1_000_001, 60), false);
        for (int second : new int[] {1_000_001, 1_000_002, Integer.MAX_VALUE}) {
            refusedInEveryState(check, second, 50);
        }
    }

    // A step at the last second is met there, and no step is later than it.
    private static void theLastSecondIsMet(Check check) {
        MashEnzymes mash = new MashEnzymes();
        States.atTheLastSecond(mash);
        check.is("degrees() at the last second", mash.degrees(), 60);
        for (int second : new int[] {999_999, 1_000_000, 1_000_001}) {
            check.refused("step(" + second + ", 50) at the last second", States::atTheLastSecond,
                again -> again.step(second, 50), false);
        }
    }

    private static void degreesAreAtLeastNothing(Check check) {
        for (double degrees : new double[] {0, -0.0}) {
            MashEnzymes mash = at(40);
            check.is("step(2, " + degrees + ")", mash.step(2, degrees), true);
            mash.run(2);
            check.is("degrees()", mash.degrees(), 0);
        }
        check.is("step(2, least)", at(40).step(2, Double.MIN_VALUE), true);
        for (double degrees : new double[] {-Double.MIN_VALUE, -0.125, -1, Double.NEGATIVE_INFINITY}) {
            refusedInEveryState(check, 500, degrees);
        }
    }

    private static void degreesAreAtMostHundred(Check check) {
        for (double degrees : new double[] {100, Math.nextDown(100.0)}) {
            MashEnzymes mash = at(64);
            check.is("step(2, " + degrees + ")", mash.step(2, degrees), true);
            mash.run(2);
            check.near("degrees()", mash.degrees(), degrees);
        }
        for (double degrees : new double[] {Math.nextUp(100.0), 100.125, 101, Double.POSITIVE_INFINITY, Double.NaN}) {
            refusedInEveryState(check, 500, degrees);
        }
    }

    // A step at this very second has gone by: without a later one, the temperature rests.
    private static void aStepAtNowHasGoneBy(Check check) {
        MashEnzymes mash = at(40);
        mash.step(2, 60);
        mash.run(2);
        mash.liquor(10, 0, 5.5);
        double cold = mash.degrees();
        check.is("degrees() with cold liquor is below 31", cold < 31, true);
        mash.run(5);
        check.is("degrees() is not heated again", mash.degrees(), cold);
    }

    private static void refusedInEveryState(Check check, int second, double degrees) {
        String call = "step(" + second + ", " + degrees + ")";
        check.refusedInEveryState(call, mash -> mash.step(second, degrees), false);
    }
}
