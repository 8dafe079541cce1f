/** Promise 12: back. */
final class BackTest {
    public static void main(String[] args) {
        Check check = new Check();
        allOfItComesBack(check);
        temperaturesMix(check);
        restsWhileItIsOut(check);
        anyOrder(check);
        withoutAnyWater(check);
        aDecoctionWithoutWater(check);
        theMeanIsReckonedWithoutItsWaterToo(check);
        thereIsNoSuchOne(check);
        theFirstAndTheLastOfEight(check);
        itIsBackAlready(check);
        degreesAreAtLeastNothing(check);
        degreesAreAtMostHundred(check);
        check.end();
    }

    private static void told(MashEnzymes mash) {
        mash.grain(8, 0.5, 0);
        mash.liquor(16, 60, 5.25);
        mash.run(30);
    }

    // A half is parted and joined without any rounding, so nothing may have changed, hidden parts not either.
    private static void allOfItComesBack(Check check) {
        MashEnzymes mash = new MashEnzymes();
        MashEnzymes whole = new MashEnzymes();
        told(mash);
        told(whole);
        mash.take(0.5);
        check.is("back(0, 60)", mash.back(0, 60), true);
        check.same("after back", mash, whole);
        mash.run(100);
        whole.run(100);
        check.same("100 seconds after back", mash, whole);
    }

    private static void temperaturesMix(Check check) {
        MashEnzymes mash = new MashEnzymes();
        mash.grain(8, 0.5, 0);
        mash.liquor(16, 60, 5.25);
        mash.take(0.25);
        check.is("back(0, 100)", mash.back(0, 100), true);
        check.is("degrees()", mash.degrees(), 70);
        check.is("water()", mash.water(), 16);
        mash.take(0.75);
        check.is("back(1, 0)", mash.back(1, 0), true);
        check.is("degrees() with the cold", mash.degrees(), 17.5);
        mash.take(0.3);
        double left = 16 - 16 * 0.3;
        mash.back(2, 88.8);
        check.is("degrees() of a third", mash.degrees(), (17.5 * left + 88.8 * (16 * 0.3)) / (left + 16 * 0.3));
    }

    private static void restsWhileItIsOut(Check check) {
        MashEnzymes mash = new MashEnzymes();
        told(mash);
        double enzyme = mash.enzymeLeft(1);
        mash.take(0.5);
        mash.run(1000);
        double decayed = mash.enzymeLeft(1);
        mash.back(0, 60);
        check.is("enzymeLeft(1)", mash.enzymeLeft(1), decayed + enzyme * 0.5);
    }

    private static void anyOrder(Check check) {
        MashEnzymes mash = new MashEnzymes();
        mash.grain(8, 0.5, 0);
        mash.liquor(16, 60, 5.25);
        mash.take(0.5);
        mash.take(0.25);
        check.is("back(1, 60)", mash.back(1, 60), true);
        check.is("water() with the second", mash.water(), 8);
        check.is("back(1, 60) again", mash.back(1, 60), false);
        check.is("take(0.5)", mash.take(0.5), 2);
        check.is("back(0, 60)", mash.back(0, 60), true);
        check.is("water() with the first", mash.water(), 12);
        check.is("back(2, 60)", mash.back(2, 60), true);
        check.is("water() with all", mash.water(), 16);
        check.is("starch() with all", mash.starch(), 4);
    }

    // A share of the least double rounds to nothing or to all of it.
    private static void withoutAnyWater(Check check) {
        MashEnzymes mash = new MashEnzymes();
        mash.grain(8, 0.5, 0);
        mash.liquor(Double.MIN_VALUE, 60, 5.5);
        check.is("take(0.75)", mash.take(0.75), 0);
        check.is("water()", mash.water(), 0);
        check.is("take(0.5)", mash.take(0.5), 1);
        check.is("back(1, 90)", mash.back(1, 90), true);
        check.is("degrees() without water", mash.degrees(), 60);
        check.is("starch()", mash.starch(), 1);
        check.is("run(1) without water", mash.run(1), 1);
        check.is("sugar(1) without water", mash.sugar(1), 0);
        check.is("back(0, 90)", mash.back(0, 90), true);
        check.is("degrees() of the water", mash.degrees(), 90);
        check.is("water() again", mash.water(), Double.MIN_VALUE);
    }

    // No water comes back: the temperature is weighed by the water of the mash alone.
    private static void aDecoctionWithoutWater(Check check) {
        MashEnzymes mash = new MashEnzymes();
        mash.grain(8, 0.5, 0);
        mash.liquor(Double.MIN_VALUE, 60, 5.5);
        mash.take(0.25);
        check.is("water() with all of it", mash.water(), Double.MIN_VALUE);
        check.is("back(0, 90)", mash.back(0, 90), true);
        check.is("degrees() without the decoction's", mash.degrees(), 60);
        check.is("starch() with the decoction's", mash.starch(), 4);
    }

    // W + w is above 0, so T is reckoned, though w is 0: 60.1 times three of the least double rounds to 180 of it.
    private static void theMeanIsReckonedWithoutItsWaterToo(Check check) {
        MashEnzymes mash = new MashEnzymes();
        mash.grain(8, 0.5, 1);
        mash.liquor(3 * Double.MIN_VALUE, 60, 5.5);
        mash.step(1, 60.1);
        mash.run(1);
        check.is("degrees() of the step", mash.degrees(), 60 + (60.1 - 60) / 1);
        mash.take(0.1);
        check.is("water() with all of it", mash.water(), 3 * Double.MIN_VALUE);
        check.is("back(0, 90)", mash.back(0, 90), true);
        check.is("degrees() reckoned anew", mash.degrees(), 60);
    }

    private static void thereIsNoSuchOne(Check check) {
        for (int decoction : new int[] {-1, 8, 9, Integer.MIN_VALUE, Integer.MAX_VALUE}) {
            refusedInEveryState(check, decoction, 60);
        }
        refused(check, "back(0, 60) before any take", BackTest::told, 0, 60);
        refused(check, "back(1, 60) after one take", BackTest::oneIsOut, 1, 60);
        refused(check, "back(7, 60) after one take", BackTest::oneIsOut, 7, 60);
        refused(check, "back(2, 60) after two takes", BackTest::firstIsBack, 2, 60);
        refused(check, "back(0, 60) after a refused take", mash -> {
            told(mash);
            mash.take(1);
        }, 0, 60);
        refused(check, "back(8, 60) after nine takes", mash -> {
            told(mash);
            States.eightDecoctions(mash);
            mash.take(0.125);
        }, 8, 60);
    }

    private static void theFirstAndTheLastOfEight(Check check) {
        MashEnzymes mash = new MashEnzymes();
        told(mash);
        States.eightDecoctions(mash);
        double out = mash.water();
        check.is("back(7, 60), the last", mash.back(7, 60), true);
        check.near("water() with the last", mash.water(), out * 8 / 7);
        check.is("back(0, 60), the first", mash.back(0, 60), true);
        check.is("back(8, 60)", mash.back(8, 60), false);
    }

    private static void itIsBackAlready(Check check) {
        refused(check, "back(0, 60) again", BackTest::firstIsBack, 0, 60);
        refused(check, "back(7, 60) again", mash -> {
            told(mash);
            States.eightDecoctions(mash);
            mash.back(7, 60);
        }, 7, 60);
        refused(check, "back(0, 60) again after another take", mash -> {
            firstIsBack(mash);
            mash.take(0.5);
        }, 0, 60);
    }

    private static void degreesAreAtLeastNothing(Check check) {
        for (double degrees : new double[] {0, -0.0, 0.125}) {
            backFromHalf(check, degrees);
        }
        for (double degrees : new double[] {-Double.MIN_VALUE, -0.125, -1, Double.NEGATIVE_INFINITY}) {
            wrongDegrees(check, degrees);
        }
    }

    private static void degreesAreAtMostHundred(Check check) {
        for (double degrees : new double[] {100, Math.nextDown(100.0)}) {
            backFromHalf(check, degrees);
        }
        for (double degrees : new double[] {Math.nextUp(100.0), 100.125, 101, Double.POSITIVE_INFINITY, Double.NaN}) {
            wrongDegrees(check, degrees);
        }
    }

    private static void backFromHalf(Check check, double degrees) {
        MashEnzymes mash = new MashEnzymes();
        mash.grain(8, 0.5, 0);
        mash.liquor(16, 60, 5.25);
        mash.take(0.5);
        check.is("back(0, " + degrees + ")", mash.back(0, degrees), true);
        check.is("degrees() with " + degrees, mash.degrees(), (60.0 * 8 + degrees * 8) / 16);
        check.is("water() with " + degrees, mash.water(), 16);
    }

    // Refused by its degrees alone, the decoction stays out and comes back later.
    private static void wrongDegrees(Check check, double degrees) {
        refusedInEveryState(check, 0, degrees);
        refused(check, "back(1, " + degrees + ") of one that is out", BackTest::firstIsBack, 1, degrees);
        MashEnzymes mash = new MashEnzymes();
        oneIsOut(mash);
        mash.back(0, degrees);
        check.is("back(0, 100) after back(0, " + degrees + ")", mash.back(0, 100), true);
    }

    private static void oneIsOut(MashEnzymes mash) {
        told(mash);
        mash.take(0.25);
    }

    private static void firstIsBack(MashEnzymes mash) {
        oneIsOut(mash);
        mash.take(0.5);
        mash.back(0, 70);
    }

    private static void refusedInEveryState(Check check, int decoction, double degrees) {
        String call = "back(" + decoction + ", " + degrees + ")";
        check.refusedInEveryState(call, mash -> mash.back(decoction, degrees), false);
    }

    private static void refused(Check check, String call, Check.Calls before, int decoction, double degrees) {
        check.refused(call, before, mash -> mash.back(decoction, degrees), false);
    }
}
