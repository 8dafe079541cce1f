/** Promise 12: back. */
final class BackTest {
    public static void main(String[] args) {
        Check check = new Check();
        allOfItComesBack(check);
        temperaturesMix(check);
        restsWhileItIsOut(check);
        anyOrder(check);
        withoutAnyWater(check);
        wrongInputsAreRefused(check);
        check.end();
    }

    private static void told(MashEnzymes mash) {
        mash.grain(8, 0.5, 0);
        mash.liquor(16, 60, 5.25);
        mash.run(30);
    }

    // A half is parted and joined without any rounding, so nothing may have changed, hidden parts not either.
    private static void allOfItComesBack(Check check) {
        MashEnzymes mash = new MashEnzymes();
        MashEnzymes whole = new MashEnzymes();
        told(mash);
        told(whole);
        mash.take(0.5);
        check.is("back(0, 60)", mash.back(0, 60), true);
        check.same("after back", mash, whole);
        mash.run(100);
        whole.run(100);
        check.same("100 seconds after back", mash, whole);
    }

    private static void temperaturesMix(Check check) {
        MashEnzymes mash = new MashEnzymes();
        mash.grain(8, 0.5, 0);
        mash.liquor(16, 60, 5.25);
        mash.take(0.25);
        check.is("back(0, 100)", mash.back(0, 100), true);
        check.is("degrees()", mash.degrees(), 70);
        check.is("water()", mash.water(), 16);
        mash.take(0.75);
        check.is("back(1, 0)", mash.back(1, 0), true);
        check.is("degrees() with the cold", mash.degrees(), 17.5);
        mash.take(0.3);
        double left = 16 - 16 * 0.3;
        mash.back(2, 88.8);
        check.is("degrees() of a third", mash.degrees(), (17.5 * left + 88.8 * (16 * 0.3)) / (left + 16 * 0.3));
    }

    private static void restsWhileItIsOut(Check check) {
        MashEnzymes mash = new MashEnzymes();
        told(mash);
        double enzyme = mash.enzymeLeft(1);
        mash.take(0.5);
        mash.run(1000);
        double decayed = mash.enzymeLeft(1);
        mash.back(0, 60);
        check.is("enzymeLeft(1)", mash.enzymeLeft(1), decayed + enzyme * 0.5);
    }

    private static void anyOrder(Check check) {
        MashEnzymes mash = new MashEnzymes();
        mash.grain(8, 0.5, 0);
        mash.liquor(16, 60, 5.25);
        mash.take(0.5);
        mash.take(0.25);
        check.is("back(1, 60)", mash.back(1, 60), true);
        check.is("water() with the second", mash.water(), 8);
        check.is("back(1, 60) again", mash.back(1, 60), false);
        check.is("take(0.5)", mash.take(0.5), 2);
        check.is("back(0, 60)", mash.back(0, 60), true);
        check.is("water() with the first", mash.water(), 12);
        check.is("back(2, 60)", mash.back(2, 60), true);
        check.is("water() with all", mash.water(), 16);
        check.is("starch() with all", mash.starch(), 4);
    }

    // A share of the least double rounds to nothing or to all of it.
    private static void withoutAnyWater(Check check) {
        MashEnzymes mash = new MashEnzymes();
        mash.grain(8, 0.5, 0);
        mash.liquor(Double.MIN_VALUE, 60, 5.5);
        check.is("take(0.75)", mash.take(0.75), 0);
        check.is("water()", mash.water(), 0);
        check.is("take(0.5)", mash.take(0.5), 1);
        check.is("back(1, 90)", mash.back(1, 90), true);
        check.is("degrees() without water", mash.degrees(), 60);
        check.is("starch()", mash.starch(), 1);
        check.is("run(1) without water", mash.run(1), 1);
        check.is("sugar(1) without water", mash.sugar(1), 0);
        check.is("back(0, 90)", mash.back(0, 90), true);
        check.is("degrees() of the water", mash.degrees(), 90);
        check.is("water() again", mash.water(), Double.MIN_VALUE);
    }

    private static void wrongInputsAreRefused(Check check) {
        for (int decoction : new int[] {-1, 0, 2, 7, 8, Integer.MIN_VALUE, Integer.MAX_VALUE}) {
            refused(check, decoction, 60);
        }
        double inf = Double.POSITIVE_INFINITY;
        for (double degrees : new double[] {-Double.MIN_VALUE, -1, Math.nextUp(100.0), inf, -inf, Double.NaN}) {
            refused(check, 1, degrees);
        }
        MashEnzymes mash = new MashEnzymes();
        firstIsBack(mash);
        mash.back(1, 101);
        check.is("back(1, 100) after a refusal", mash.back(1, 100), true);
    }

    private static void firstIsBack(MashEnzymes mash) {
        told(mash);
        mash.take(0.25);
        mash.take(0.5);
        mash.back(0, 70);
    }

    private static void refused(Check check, int decoction, double degrees) {
        String call = "back(" + decoction + ", " + degrees + ")";
        MashEnzymes mash = new MashEnzymes();
        firstIsBack(mash);
        check.is(call, mash.back(decoction, degrees), false);
        check.changesNothing(call, BackTest::firstIsBack, again -> again.back(decoction, degrees));
    }
}
