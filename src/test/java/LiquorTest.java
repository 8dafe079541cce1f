/** Promise 3: liquor. */
final class LiquorTest {
    public static void main(String[] args) {
        Check check = new Check();
        temperaturesMix(check);
        aciditiesMix(check);
        edgesAreTaken(check);
        wrongInputsAreRefused(check);
        check.end();
    }

    private static void temperaturesMix(Check check) {
        MashEnzymes mash = new MashEnzymes();
        check.is("liquor(10, 50, 5.5)", mash.liquor(10, 50, 5.5), true);
        check.is("degrees()", mash.degrees(), 50);
        check.is("water()", mash.water(), 10);
        check.is("liquor(30, 70, 5.5)", mash.liquor(30, 70, 5.5), true);
        check.is("degrees() of both", mash.degrees(), 65);
        check.is("water() of both", mash.water(), 40);
        mash.liquor(0.3, 33.3, 5.1);
        check.is("degrees() of three", mash.degrees(), (65.0 * 40 + 33.3 * 0.3) / (40 + 0.3));
    }

    // At 50 degrees the protein enzyme works at its full rate, so the acids that it makes tell the acidity.
    private static void aciditiesMix(Check check) {
        acidity(check, 5.5, 5.5, 1);
        acidity(check, 6.5, 6.5, 0.75);
        acidity(check, 4.5, 4.5, 0.75);
        acidity(check, 7.5, 3.5, 1);
        acidity(check, 8, 5, 0.75);
        acidity(check, 7.5, 7.5, 0);
        acidity(check, 8, 8, 0);
        acidity(check, 3, 3, 0);
    }

    private static void acidity(Check check, double first, double second, double fitness) {
        MashEnzymes mash = new MashEnzymes();
        mash.liquor(4, 50, first);
        mash.liquor(4, 50, second);
        mash.grain(16, 0, 1);
        mash.enzyme(3, 8);
        mash.run(1);
        double x = 8 * fitness;
        check.is("sugar(4) by acidities " + first + ", " + second, mash.sugar(4), x / (x + 8) * 0.0625);
    }

    private static void edgesAreTaken(Check check) {
        MashEnzymes mash = new MashEnzymes();
        check.is("liquor(least, 100, 3)", mash.liquor(Double.MIN_VALUE, 100, 3), true);
        check.is("degrees() of the least", mash.degrees(), 100);
        check.is("liquor(10000, 0, 8)", mash.liquor(10000, 0, 8), true);
        check.is("degrees()", mash.degrees(), 100 * Double.MIN_VALUE / 10000);
        check.is("water()", mash.water(), 10000);
    }

    private static void wrongInputsAreRefused(Check check) {
        double inf = Double.POSITIVE_INFINITY;
        for (double litres : new double[] {0, -0.0, -1, Math.nextUp(10000.0), inf, -inf, Double.NaN}) {
            refused(check, litres, 50, 5.5);
        }
        for (double degrees : new double[] {-Double.MIN_VALUE, -1, Math.nextUp(100.0), inf, -inf, Double.NaN}) {
            refused(check, 10, degrees, 5.5);
        }
        for (double acidity : new double[] {Math.nextDown(3.0), 0, -5, Math.nextUp(8.0), inf, Double.NaN}) {
            refused(check, 10, 50, acidity);
        }
        MashEnzymes mash = new MashEnzymes();
        mash.grain(1, 0.5, 0);
        mash.liquor(0, 50, 5.5);
        check.is("run(1) with refused liquor alone", mash.run(1), MashEnzymes.NONE);
    }

    private static void refused(Check check, double litres, double degrees, double acidity) {
        String call = "liquor(" + litres + ", " + degrees + ", " + acidity + ")";
        check.is(call, new MashEnzymes().liquor(litres, degrees, acidity), false);
        check.changesNothing(call, mash -> mash.grain(3, 0.5, 0), mash -> mash.liquor(litres, degrees, acidity));
    }
}
