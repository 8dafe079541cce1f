/** Promise 6: run, and what a second does. */
final class RunTest {
    private static final double LITTLE = 0.0078125;

    public static void main(String[] args) {
        Check check = new Check();
        oneWholeSecond(check);
        proteinIsUsedUp(check);
        littleWaterIsTheBound(check);
        muchWaterIsNoBound(check);
        theLesserIsSplit(check);
        noWaterAndNoEnzymes(check);
        noWaterButEnzymes(check);
        theLeastEnzyme(check);
        acidityAtItsEdges(check);
        secondsAddUp(check);
        noSecondsChangeNothing(check);
        secondsAreAtLeastNone(check);
        secondsAreAtMostHundredThousand(check);
        theLastSecondIsReached(check);
        nothingIsBeyondTheLastSecond(check);
        emptyIsRefused(check);
        check.end();
    }

    // 60 degrees, acidity 5.5, 16 of water, and enzymes that give x = 16, 16, 16 and 12.
    private static void oneWholeSecond(Check check) {
        MashEnzymes mash = new MashEnzymes();
        mash.grain(64, 1, 1);
        mash.liquor(16, 60, 5.5);
        mash.enzyme(0, 32);
        mash.enzyme(1, 16);
        mash.enzyme(2, 16);
        mash.enzyme(3, 16);
        check.is("run(1)", mash.run(1), 1);
        double f = 0.03125;
        double gelled = 64 * (16 / 4096.0);
        double x = gelled * f;
        double y = x * 0.75 * f;
        double z = (x * 0.75 - y) * f;
        check.is("starch()", mash.starch(), 64 - gelled + (gelled - x));
        check.is("sugar(0)", mash.sugar(0), z * 1.125);
        check.is("sugar(1)", mash.sugar(1), y * 1.0625);
        check.is("sugar(2)", mash.sugar(2), x * 0.25);
        check.is("sugar(3)", mash.sugar(3), x * 0.75 - y - z);
        check.is("sugar(4)", mash.sugar(4), 4 * (12.0 / 28 * 0.0625));
        check.is("water()", mash.water(), 16 - y * 0.0625 - z * 0.125);
        check.is("enzymeLeft(0)", mash.enzymeLeft(0), 32);
        check.is("enzymeLeft(1)", mash.enzymeLeft(1), 16 - 16 * 4 / 4096.0);
        check.is("enzymeLeft(2)", mash.enzymeLeft(2), 16 - 16 * 16 / 4096.0);
        check.is("enzymeLeft(3)", mash.enzymeLeft(3), 16 - 16 * 32 / 4096.0);
    }

    // At 40 degrees no enzyme decays, so each second splits the same part of what is left.
    private static void proteinIsUsedUp(Check check) {
        MashEnzymes mash = new MashEnzymes();
        mash.grain(16, 0, 1);
        mash.liquor(8, 40, 5.5);
        mash.enzyme(3, 16);
        double protein = 1;
        double acids = 0;
        for (int second = 1; second <= 20; second++) {
            mash.run(1);
            double split = protein * 0.03125;
            protein = protein - split;
            acids = acids + split;
            check.is("sugar(4) at second " + second, mash.sugar(4), acids);
        }
    }

    // Half of the water stays when eight of dextrins per water are split by beta, three quarters with two by limit.
    private static void littleWaterIsTheBound(Check check) {
        for (double water : new double[] {LITTLE * 0.5, LITTLE, 3 * LITTLE, 1}) {
            MashEnzymes beta = ofDextrins(water);
            splitOnce(check, beta, 1, beta.water() * 8);
            check.is("water() left by beta", beta.water(), water * 0.5);
            MashEnzymes limit = ofDextrins(water);
            splitOnce(check, limit, 2, limit.water() * 2);
            check.is("water() left by limit", limit.water(), water * 0.75);
        }
    }

    private static void muchWaterIsNoBound(Check check) {
        for (double water : new double[] {100, 10_000}) {
            for (int e = 1; e <= 2; e++) {
                MashEnzymes mash = ofDextrins(water);
                splitOnce(check, mash, e, wanted(mash));
            }
        }
    }

    // Litre by litre from where the water is the bound to where it is not.
    private static void theLesserIsSplit(Check check) {
        for (int water = 1; water <= 30; water++) {
            MashEnzymes beta = ofDextrins(water);
            splitOnce(check, beta, 1, Math.min(wanted(beta), beta.water() * 8));
            MashEnzymes limit = ofDextrins(water);
            splitOnce(check, limit, 2, Math.min(wanted(limit), limit.water() * 2));
        }
    }

    private static double wanted(MashEnzymes mash) {
        return mash.sugar(3) * (1000 / (1000 + mash.water()) * 0.0625);
    }

    private static void splitOnce(Check check, MashEnzymes mash, int e, double due) {
        double dextrins = mash.sugar(3);
        double water = mash.water();
        mash.enzyme(e, 1000);
        mash.run(1);
        String name = "enzyme " + e + " with water " + water;
        check.is(name + ", dextrins", mash.sugar(3), dextrins - due);
        check.is(name + ", sugar", mash.sugar(e == 1 ? 1 : 0), due * (e == 1 ? 1.0625 : 1.125));
        check.is(name + ", water", mash.water(), water - due * (e == 1 ? 0.0625 : 0.125));
    }

    /** Much dextrins, no enzyme that could do more, so much water, at 60 degrees, where beta and limit work fully. */
    private static MashEnzymes ofDextrins(double water) {
        MashEnzymes mash = new MashEnzymes();
        mash.grain(1000, 1, 1);
        mash.liquor(LITTLE, 80, 5.5);
        mash.enzyme(0, 1000);
        mash.run(100_000);
        if (water > LITTLE) {
            mash.liquor(water - LITTLE, 80, 5.5);
        } else if (water < LITTLE) {
            mash.take(1 - water / LITTLE);
        }
        mash.step(100_001, 60);
        return mash;
    }

    // Three quarters of the least double round to all of it, so no water stays: nothing may divide by it.
    private static void noWaterAndNoEnzymes(Check check) {
        MashEnzymes mash = new MashEnzymes();
        mash.grain(8, 0.5, 1);
        mash.liquor(Double.MIN_VALUE, 70, 5.5);
        mash.take(0.75);
        check.is("water()", mash.water(), 0);
        check.is("run(5)", mash.run(5), 5);
        check.is("starch()", mash.starch(), 1);
        for (int kind = 0; kind < 5; kind++) {
            check.is("sugar(" + kind + ") without water and enzymes", mash.sugar(kind), 0);
        }
    }

    // x / (x + 0) is 1: the enzymes work fully, but beta and limit have no water to use up.
    private static void noWaterButEnzymes(Check check) {
        MashEnzymes mash = new MashEnzymes();
        mash.grain(64, 1, 1);
        mash.liquor(Double.MIN_VALUE, 60, 5.5);
        mash.take(0.75);
        for (int e = 0; e < 4; e++) {
            mash.enzyme(e, 8);
        }
        check.is("run(1)", mash.run(1), 1);
        double gelled = 16 * (16 / 4096.0);
        check.is("sugar(2) without water", mash.sugar(2), gelled * 0.0625 * 0.25);
        check.is("sugar(3) without water", mash.sugar(3), gelled * 0.0625 * 0.75);
        check.is("sugar(4) without water", mash.sugar(4), 0.0625);
        check.is("sugar(0) without water", mash.sugar(0), 0);
        check.is("sugar(1) without water", mash.sugar(1), 0);
        check.is("water() stays none", mash.water(), 0);
    }

    // The least enzyme is above 0, but its part of a second is lost to rounding.
    private static void theLeastEnzyme(Check check) {
        MashEnzymes mash = new MashEnzymes();
        mash.grain(64, 0, 1);
        mash.liquor(16, 50, 5.5);
        mash.enzyme(3, Double.MIN_VALUE);
        mash.run(1);
        check.is("sugar(4)", mash.sugar(4), 4 * (Double.MIN_VALUE / 16 * 0.0625));
        check.is("enzymeLeft(3)", mash.enzymeLeft(3), Double.MIN_VALUE);
    }

    // From 3.5 to 7.5 the enzymes work; at these and beyond them they do not.
    private static void acidityAtItsEdges(Check check) {
        for (double acidity : new double[] {3.5, 7.5, Math.nextDown(3.5), Math.nextUp(7.5), 3, 8}) {
            MashEnzymes mash = ofAcidity(acidity);
            mash.run(5);
            for (int kind = 0; kind < 5; kind++) {
                check.is("sugar(" + kind + ") at acidity " + acidity, mash.sugar(kind), 0);
            }
            check.is("starch() at acidity " + acidity, mash.starch(), 64);
        }
        for (double acidity : new double[] {3.5625, 7.4375, 3.51, 7.49, 5.5}) {
            MashEnzymes mash = ofAcidity(acidity);
            mash.run(1);
            double x = 16 * 0.75 * (1 - (acidity - 5.5) * (acidity - 5.5) * 0.25);
            check.is("sugar(4) at acidity " + acidity, mash.sugar(4), 4 * (x / (x + 16) * 0.0625));
        }
    }

    private static MashEnzymes ofAcidity(double acidity) {
        MashEnzymes mash = new MashEnzymes();
        mash.grain(64, 1, 1);
        mash.liquor(16, 60, acidity);
        for (int e = 0; e < 4; e++) {
            mash.enzyme(e, 16);
        }
        return mash;
    }

    private static void secondsAddUp(Check check) {
        MashEnzymes one = new MashEnzymes();
        MashEnzymes many = new MashEnzymes();
        for (MashEnzymes mash : new MashEnzymes[] {one, many}) {
            mash.grain(10, 0.6, 0);
            mash.liquor(25, 52, 5.3);
            mash.step(90, 63);
            mash.step(200, 78);
        }
        check.is("run(250)", one.run(250), 250);
        for (int second = 1; second <= 250; second++) {
            check.is("run(1)", many.run(1), second);
        }
        check.same("250 seconds in one and in many", one, many);
    }

    private static void noSecondsChangeNothing(Check check) {
        MashEnzymes mash = new MashEnzymes();
        States.mash(mash);
        check.is("run(0) at second 0", mash.run(0), 0);
        mash.run(7);
        check.is("run(0) at second 7", mash.run(0), 7);
        check.changesNothing("run(0)", States::mash, again -> again.run(0));
        check.changesNothing("run(0) before a step", again -> {
            States.mash(again);
            again.step(1, 90);
        }, again -> again.run(0));
    }

    private static void secondsAreAtLeastNone(Check check) {
        for (int seconds : new int[] {-1, -2, -100_000, Integer.MIN_VALUE}) {
            refusedInEveryState(check, seconds);
        }
        check.refused("run(-1) at second 10", RunTest::atSecondTen, mash -> mash.run(-1), MashEnzymes.NONE);
        check.refused("run(-10) at second 10", RunTest::atSecondTen, mash -> mash.run(-10), MashEnzymes.NONE);
    }

    private static void secondsAreAtMostHundredThousand(Check check) {
        for (int seconds : new int[] {99_999, 100_000}) {
            MashEnzymes mash = new MashEnzymes();
            States.mash(mash);
            check.is("run(" + seconds + ")", mash.run(seconds), seconds);
        }
        for (int seconds : new int[] {100_001, 1_000_000, 1_000_001, Integer.MAX_VALUE}) {
            refusedInEveryState(check, seconds);
        }
        check.refused("run(100001) at second 10", RunTest::atSecondTen, mash -> mash.run(100_001), MashEnzymes.NONE);
    }

    private static void atSecondTen(MashEnzymes mash) {
        States.mash(mash);
        mash.run(10);
    }

    private static void refusedInEveryState(Check check, int seconds) {
        check.refusedInEveryState("run(" + seconds + ")", mash -> mash.run(seconds), MashEnzymes.NONE);
    }

    private static void theLastSecondIsReached(Check check) {
        MashEnzymes mash = new MashEnzymes();
        States.mash(mash);
        for (int i = 1; i <= 10; i++) {
            check.is("run(100000)", mash.run(100_000), i * 100_000);
        }
        check.is("run(0) at the last second", mash.run(0), 1_000_000);
        check.is("run(1) at the last second", mash.run(1), MashEnzymes.NONE);
        check.is("run(0) at the last second again", mash.run(0), 1_000_000);
    }

    private static void nothingIsBeyondTheLastSecond(Check check) {
        for (int seconds : new int[] {1, 2, 99_999, 100_000}) {
            check.refused("run(" + seconds + ") at the last second", States::atTheLastSecond,
                mash -> mash.run(seconds), MashEnzymes.NONE);
        }
        for (int seconds : new int[] {4, 5, 100_000}) {
            check.refused("run(" + seconds + ") three seconds before the last", RunTest::threeBeforeTheLast,
                mash -> mash.run(seconds), MashEnzymes.NONE);
        }
        MashEnzymes mash = new MashEnzymes();
        threeBeforeTheLast(mash);
        check.is("run(2)", mash.run(2), 999_999);
        check.is("run(2) beyond the last second", mash.run(2), MashEnzymes.NONE);
        check.is("run(0)", mash.run(0), 999_999);
        check.is("run(1) to the last second", mash.run(1), 1_000_000);
    }

    private static void threeBeforeTheLast(MashEnzymes mash) {
        States.mash(mash);
        for (int i = 0; i < 9; i++) {
            mash.run(100_000);
        }
        mash.run(99_997);
    }

    // No time goes by, so a step stays as far away as it was.
    private static void emptyIsRefused(Check check) {
        Check.Calls grainAndStep = mash -> {
            mash.grain(8, 0.5, 0);
            mash.step(5, 60);
        };
        Check.Calls liquorAndStep = mash -> {
            mash.liquor(8, 50, 5.5);
            mash.step(5, 60);
        };
        for (int seconds : new int[] {0, 1, 5, 100_000}) {
            String call = "run(" + seconds + ") of ";
            check.refused(call + "nothing", mash -> { }, mash -> mash.run(seconds), MashEnzymes.NONE);
            check.refused(call + "grain", grainAndStep, mash -> mash.run(seconds), MashEnzymes.NONE);
            check.refused(call + "liquor", liquorAndStep, mash -> mash.run(seconds), MashEnzymes.NONE);
        }
    }
}
