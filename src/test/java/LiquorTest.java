/** Promise 3: liquor. */
final class LiquorTest {
    private static final double LEAST = Double.MIN_VALUE;
    private static final double INF = Double.POSITIVE_INFINITY;
    private static final double NAN = Double.NaN;

    public static void main(String[] args) {
        Check check = new Check();
        temperaturesMix(check);
        aciditiesMix(check);
        litresAreAboveNothing(check);
        litresAreAtMostTenThousand(check);
        mostAndLeastMix(check);
        degreesAreAtLeastNothing(check);
        degreesAreAtMostHundred(check);
        acidityIsAtLeastThree(check);
        acidityIsAtMostEight(check);
        theEdgesOfAcidityMix(check);
        acidityMixesAtAnySecond(check);
        liquorAfterTheLastWater(check);
        allWrongIsRefusedToo(check);
        check.end();
    }

    private static void temperaturesMix(Check check) {
        MashEnzymes mash = new MashEnzymes();
        check.is("liquor(10, 50, 5.5)", mash.liquor(10, 50, 5.5), true);
        check.is("degrees()", mash.degrees(), 50);
        check.is("water()", mash.water(), 10);
        check.is("liquor(30, 70, 5.5)", mash.liquor(30, 70, 5.5), true);
        check.is("degrees() of both", mash.degrees(), 65);
        check.is("water() of both", mash.water(), 40);
        mash.liquor(0.3, 33.3, 5.1);
        check.is("degrees() of three", mash.degrees(), (65.0 * 40 + 33.3 * 0.3) / (40 + 0.3));
    }

    // At 50 degrees the protein enzyme works at its full rate, so the acids that it makes tell the acidity.
    private static void aciditiesMix(Check check) {
        acidity(check, 5.5, 5.5, 1);
        acidity(check, 6.5, 6.5, 0.75);
        acidity(check, 4.5, 4.5, 0.75);
        acidity(check, 7.5, 3.5, 1);
        acidity(check, 8, 5, 0.75);
        acidity(check, 7.5, 7.5, 0);
        acidity(check, 8, 8, 0);
        acidity(check, 3, 3, 0);
    }

    private static void acidity(Check check, double first, double second, double fitness) {
        MashEnzymes mash = new MashEnzymes();
        mash.liquor(4, 50, first);
        mash.liquor(4, 50, second);
        mash.grain(16, 0, 1);
        mash.enzyme(3, 8);
        mash.run(1);
        double x = 8 * fitness;
        check.is("sugar(4) by acidities " + first + ", " + second, mash.sugar(4), x / (x + 8) * 0.0625);
    }

    private static void litresAreAboveNothing(Check check) {
        MashEnzymes mash = new MashEnzymes();
        check.is("liquor(least, 100, 3)", mash.liquor(LEAST, 100, 3), true);
        check.is("degrees() of the least", mash.degrees(), 100);
        check.is("water() of the least", mash.water(), LEAST);
        for (double litres : new double[] {0, -0.0, -LEAST, -1, -10_000, -INF}) {
            refused(check, litres, 50, 5.5);
        }
    }

    private static void litresAreAtMostTenThousand(Check check) {
        for (double litres : new double[] {10_000, Math.nextDown(10_000.0)}) {
            MashEnzymes mash = new MashEnzymes();
            check.is("liquor(" + litres + ", 64, 5.5)", mash.liquor(litres, 64, 5.5), true);
            check.is("water() of " + litres, mash.water(), litres);
            check.is("degrees() of " + litres, mash.degrees(), 64);
        }
        for (double litres : new double[] {Math.nextUp(10_000.0), 10_000.125, 10_001, 1e300, INF, NAN}) {
            refused(check, litres, 50, 5.5);
        }
    }

    // Beside 10,000 litres the least one is lost to rounding, but it is told all the same.
    private static void mostAndLeastMix(Check check) {
        MashEnzymes mash = new MashEnzymes();
        mash.liquor(LEAST, 100, 3);
        check.is("liquor(10000, 0, 8)", mash.liquor(10_000, 0, 8), true);
        check.is("degrees()", mash.degrees(), 100 * LEAST / 10_000);
        check.is("water()", mash.water(), 10_000);
    }

    private static void degreesAreAtLeastNothing(Check check) {
        for (double degrees : new double[] {0, -0.0, 0.125}) {
            MashEnzymes mash = new MashEnzymes();
            check.is("liquor(8, " + degrees + ", 5.5)", mash.liquor(8, degrees, 5.5), true);
            check.is("degrees()", mash.degrees(), degrees);
            check.is("water()", mash.water(), 8);
        }
        check.is("liquor(8, least, 5.5)", new MashEnzymes().liquor(8, LEAST, 5.5), true);
        for (double degrees : new double[] {-LEAST, -0.125, -1, -INF}) {
            refused(check, 10, degrees, 5.5);
        }
    }

    private static void degreesAreAtMostHundred(Check check) {
        for (double degrees : new double[] {100, Math.nextDown(100.0)}) {
            MashEnzymes mash = new MashEnzymes();
            check.is("liquor(8, " + degrees + ", 5.5)", mash.liquor(8, degrees, 5.5), true);
            check.is("degrees()", mash.degrees(), degrees);
        }
        for (double degrees : new double[] {Math.nextUp(100.0), 100.125, 101, INF, NAN}) {
            refused(check, 10, degrees, 5.5);
        }
    }

    private static void acidityIsAtLeastThree(Check check) {
        for (double acidity : new double[] {3, Math.nextUp(3.0)}) {
            taken(check, acidity);
        }
        for (double acidity : new double[] {Math.nextDown(3.0), 2.875, 0, -0.0, -5.5, -INF}) {
            refused(check, 10, 50, acidity);
        }
    }

    private static void acidityIsAtMostEight(Check check) {
        for (double acidity : new double[] {8, Math.nextDown(8.0)}) {
            taken(check, acidity);
        }
        for (double acidity : new double[] {Math.nextUp(8.0), 8.125, 9, INF, NAN}) {
            refused(check, 10, 50, acidity);
        }
    }

    private static void taken(Check check, double acidity) {
        MashEnzymes mash = new MashEnzymes();
        check.is("liquor(8, 50, " + acidity + ")", mash.liquor(8, 50, acidity), true);
        check.is("water() of acidity " + acidity, mash.water(), 8);
    }

    // The acidity 3 or 8, mixed with its like, is 5.5: it has been kept as it was told.
    private static void theEdgesOfAcidityMix(Check check) {
        acidity(check, 3, 8, 1);
        acidity(check, 8, 3, 1);
        acidity(check, 3, 6, 0.75);
    }

    // Too sour for any enzyme at first; the second liquor, told later, makes the acidity 5.5.
    private static void acidityMixesAtAnySecond(Check check) {
        MashEnzymes mash = new MashEnzymes();
        mash.grain(16, 0, 1);
        mash.liquor(4, 50, 3);
        mash.enzyme(3, 8);
        mash.run(1);
        check.is("sugar(4) at acidity 3", mash.sugar(4), 0);
        double left = mash.enzymeLeft(3);
        mash.liquor(4, 50, 8);
        mash.run(1);
        check.is("sugar(4) at acidity 5.5", mash.sugar(4), left / (left + 8) * 0.0625);
    }

    // Without any water left, the new liquor alone makes temperature and acidity.
    private static void liquorAfterTheLastWater(Check check) {
        MashEnzymes mash = new MashEnzymes();
        mash.grain(16, 0, 1);
        mash.liquor(LEAST, 90, 8);
        mash.take(0.75);
        check.is("water() without any left", mash.water(), 0);
        check.is("liquor(4, 50, 5.5)", mash.liquor(4, 50, 5.5), true);
        check.is("degrees() of the new liquor", mash.degrees(), 50);
        mash.enzyme(3, 4);
        mash.run(1);
        check.is("sugar(4) by the new acidity", mash.sugar(4), 0.25 * 0.03125);
    }

    private static void allWrongIsRefusedToo(Check check) {
        refused(check, 0, 101, 9);
        refused(check, 20_000, -1, 2);
        refused(check, NAN, NAN, NAN);
    }

    private static void refused(Check check, double litres, double degrees, double acidity) {
        String call = "liquor(" + litres + ", " + degrees + ", " + acidity + ")";
        check.refusedInEveryState(call, mash -> mash.liquor(litres, degrees, acidity), false);
    }
}
