/**
 * The terms: all numbers are doubles, reckoned as they are written, from the left to the right. Many odd numbers are
 * tried, since another order of the same reckoning differs in the last place of some of them alone.
 */
final class ReckoningTest {
    private static final int TIMES = 100;

    public static void main(String[] args) {
        Check check = new Check();
        liquorMixes(check);
        stepsHeat(check);
        rowsAreReadBetweenTheirDegrees(check);
        enzymesDecay(check);
        proteinIsSplit(check);
        decoctionsPartAndJoin(check);
        check.end();
    }

    /** An odd number between two others, another one each time. */
    private static double odd(int time, double from, double to) {
        double part = (time * 0.6180339887 + 0.1) % 1;
        return from + (to - from) * part;
    }

    private static void liquorMixes(Check check) {
        MashEnzymes mash = new MashEnzymes();
        double t = 0;
        double w = 0;
        for (int time = 1; time <= TIMES; time++) {
            double litres = odd(time, 0.1, 30);
            double degrees = odd(3 * time, 30, 90);
            mash.liquor(litres, degrees, 5.5);
            t = (t * w + degrees * litres) / (w + litres);
            w = w + litres;
            check.is("degrees() of liquor " + time, mash.degrees(), t);
            check.is("water() of liquor " + time, mash.water(), w);
        }
    }

    private static void stepsHeat(Check check) {
        for (int time = 1; time <= TIMES; time++) {
            heats(check, odd(time, 20, 60), odd(7 * time, 30, 80), 7);
            heats(check, odd(time, 50, 90), odd(7 * time, 0, 1), 1);
        }
    }

    // The last second of a step is reckoned like all others, so its degrees are met but for the last place.
    private static void heats(Check check, double from, double d, int s) {
        double t = from;
        MashEnzymes mash = new MashEnzymes();
        mash.grain(1, 0.5, 1);
        mash.liquor(1, t, 5.5);
        mash.step(s, d);
        for (int now = 0; now < s; now++) {
            t = t + (d - t) / (s - now);
            mash.run(1);
            check.is("degrees() at second " + (now + 1) + " from " + from + " to " + d, mash.degrees(), t);
        }
    }

    // Between 60 and 65 degrees the rate of the protein enzyme is 6 to 3 of 8.
    private static void rowsAreReadBetweenTheirDegrees(Check check) {
        for (int time = 1; time <= TIMES; time++) {
            double t = odd(time, 60, 65);
            MashEnzymes mash = new MashEnzymes();
            mash.grain(16, 0, 1);
            mash.liquor(1, t, 5.5);
            mash.enzyme(3, 1);
            mash.run(1);
            double u = 0.75;
            double v = 0.375;
            double rate = u + (v - u) * (t - 60) / (65 - 60);
            check.is("sugar(4) at " + t, mash.sugar(4), rate / (rate + 1) * 0.0625);
        }
    }

    // At 80 degrees the decay of beta is 200 of 4,096.
    private static void enzymesDecay(Check check) {
        double left = 7.7;
        MashEnzymes mash = new MashEnzymes();
        mash.grain(1, 0, 1);
        mash.liquor(1, 80, 5.5);
        mash.enzyme(1, left);
        for (int second = 1; second <= TIMES; second++) {
            left = left - left * (200 / 4096.0);
            mash.run(1);
            check.is("enzymeLeft(1) at second " + second, mash.enzymeLeft(1), left);
        }
    }

    // At 60 degrees the rate of the protein enzyme is 6 of 8.
    private static void proteinIsSplit(Check check) {
        for (int time = 1; time <= TIMES; time++) {
            double kg = odd(time, 1, 9);
            double litres = odd(3 * time, 2, 20);
            double acidity = odd(7 * time, 4, 7);
            double enzyme = odd(11 * time, 1, 20);
            MashEnzymes mash = new MashEnzymes();
            mash.grain(kg, 0.5, 1);
            mash.liquor(litres, 60, 5.5);
            mash.liquor(litres, 60, acidity);
            mash.enzyme(3, enzyme);
            mash.step(1, 60);
            mash.run(1);
            double acid = (5.5 * litres + acidity * litres) / (litres + litres);
            double x = enzyme * 0.75 * (1 - (acid - 5.5) * (acid - 5.5) * 0.25);
            double f = x / (x + (litres + litres)) * 0.0625;
            check.is("sugar(4), time " + time, mash.sugar(4), kg * 0.0625 * f);
        }
    }

    private static void decoctionsPartAndJoin(Check check) {
        for (int time = 1; time <= TIMES; time++) {
            double w = odd(time, 2, 20);
            double t = 60;
            double share = odd(3 * time, 0.1, 0.9);
            double degrees = odd(7 * time, 30, 100);
            MashEnzymes mash = new MashEnzymes();
            mash.grain(w, 0.5, 1);
            mash.liquor(w, t, 5.5);
            t = mash.degrees();
            mash.take(share);
            double left = w - w * share;
            check.is("water() without share " + share, mash.water(), left);
            mash.back(0, degrees);
            t = (t * left + degrees * (w * share)) / (left + w * share);
            check.is("degrees() with share " + share, mash.degrees(), t);
            check.is("water() with share " + share, mash.water(), left + w * share);
            check.is("starch() with share " + share, mash.starch(), w * 0.5 - w * 0.5 * share + w * 0.5 * share);
        }
    }
}
