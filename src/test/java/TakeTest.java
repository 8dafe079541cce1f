/** Promise 11: take. */
final class TakeTest {
    public static void main(String[] args) {
        Check check = new Check();
        theShareIsTakenOut(check);
        hiddenPartsAreTakenToo(check);
        eightAreAll(check);
        decoctionsBackStillCount(check);
        refusedTakesDoNotCount(check);
        refusedBeforeFull(check);
        shareIsAboveNothing(check);
        shareIsBelowAll(check);
        emptyIsRefused(check);
        atTheLastSecond(check);
        check.end();
    }

    private static void told(MashEnzymes mash) {
        mash.grain(8, 0.5, 0);
        mash.liquor(20, 62, 5.25);
        mash.run(30);
    }

    private static void theShareIsTakenOut(Check check) {
        double share = 0.3;
        MashEnzymes mash = new MashEnzymes();
        MashEnzymes whole = new MashEnzymes();
        told(mash);
        told(whole);
        check.is("take(0.3)", mash.take(share), 0);
        check.is("degrees()", mash.degrees(), whole.degrees());
        check.is("water()", mash.water(), whole.water() - whole.water() * share);
        check.near("starch()", mash.starch(), whole.starch() * 0.7);
        for (int kind = 0; kind < 5; kind++) {
            check.is("sugar(" + kind + ")", mash.sugar(kind), whole.sugar(kind) - whole.sugar(kind) * share);
        }
        for (int e = 0; e < 4; e++) {
            check.is("enzymeLeft(" + e + ")", mash.enzymeLeft(e), whole.enzymeLeft(e) - whole.enzymeLeft(e) * share);
        }
        check.is("run(0): no time has gone by", mash.run(0), 30);
    }

    // Raw grain has protein alone; half of it, with half of the enzyme and of the water, gives half of the acids.
    private static void hiddenPartsAreTakenToo(Check check) {
        MashEnzymes mash = new MashEnzymes();
        mash.grain(16, 1, 1);
        mash.liquor(16, 50, 5.5);
        mash.enzyme(3, 16);
        mash.enzyme(0, 16);
        mash.take(0.5);
        mash.run(1);
        check.is("sugar(4)", mash.sugar(4), 0.5 * 0.03125);
        check.is("sugar(2)", mash.sugar(2), 8 * (2 / 4096.0) * (2.0 / 10 * 0.0625) * 0.25);
    }

    private static void eightAreAll(Check check) {
        MashEnzymes mash = new MashEnzymes();
        told(mash);
        for (int number = 0; number < 8; number++) {
            check.is("take " + number, mash.take(0.125), number);
        }
        check.is("the ninth take", mash.take(0.125), MashEnzymes.FULL);
        for (double share : new double[] {0.5, Double.MIN_VALUE, Math.nextDown(1.0)}) {
            check.refused("the ninth take(" + share + ")", TakeTest::full, again -> again.take(share),
                MashEnzymes.FULL);
        }
    }

    private static void decoctionsBackStillCount(Check check) {
        MashEnzymes mash = new MashEnzymes();
        told(mash);
        for (int number = 0; number < 8; number++) {
            check.is("take " + number, mash.take(0.125), number);
            check.is("back " + number, mash.back(number, 70), true);
        }
        check.is("the ninth take, all back", mash.take(0.125), MashEnzymes.FULL);
        check.refused("the ninth take, some back", again -> {
            full(again);
            again.back(0, 70);
            again.back(7, 70);
        }, again -> again.take(0.5), MashEnzymes.FULL);
    }

    private static void refusedTakesDoNotCount(Check check) {
        MashEnzymes mash = new MashEnzymes();
        mash.take(0.5);
        told(mash);
        for (int number = 0; number < 8; number++) {
            mash.take(0);
            mash.take(1);
            check.is("take " + number + " after refused ones", mash.take(0.125), number);
        }
    }

    private static void full(MashEnzymes mash) {
        told(mash);
        States.eightDecoctions(mash);
    }

    // The document names the wrong share before the eight.
    private static void refusedBeforeFull(Check check) {
        for (double share : new double[] {0, 1, -0.5, 1.5, Double.NaN}) {
            check.refused("take(" + share + ") when full", TakeTest::full, mash -> mash.take(share), MashEnzymes.NONE);
        }
    }

    private static void shareIsAboveNothing(Check check) {
        MashEnzymes mash = new MashEnzymes();
        told(mash);
        double water = mash.water();
        check.is("take(least)", mash.take(Double.MIN_VALUE), 0);
        check.is("water() without the least", mash.water(), water);
        for (double share : new double[] {0, -0.0, -Double.MIN_VALUE, -0.5, -1, Double.NEGATIVE_INFINITY}) {
            refusedInEveryState(check, share);
        }
    }

    private static void shareIsBelowAll(Check check) {
        double nearlyAll = Math.nextDown(1.0);
        MashEnzymes mash = new MashEnzymes();
        told(mash);
        double water = mash.water();
        double alpha = mash.enzymeLeft(0);
        check.is("take(nearly all)", mash.take(nearlyAll), 0);
        check.is("water() left", mash.water(), water - water * nearlyAll);
        check.is("enzymeLeft(0) left", mash.enzymeLeft(0), alpha - alpha * nearlyAll);
        check.is("run(1) goes on", mash.run(1), 31);
        for (double share : new double[] {1, Math.nextUp(1.0), 1.5, 2, Double.POSITIVE_INFINITY, Double.NaN}) {
            refusedInEveryState(check, share);
        }
    }

    private static void refusedInEveryState(Check check, double share) {
        check.refusedInEveryState("take(" + share + ")", mash -> mash.take(share), MashEnzymes.NONE);
    }

    private static void emptyIsRefused(Check check) {
        emptyIsRefused(check, "nothing", mash -> { });
        emptyIsRefused(check, "grain alone", mash -> mash.grain(8, 0.5, 0));
        emptyIsRefused(check, "liquor alone", mash -> mash.liquor(8, 50, 5.5));
    }

    private static void emptyIsRefused(Check check, String name, Check.Calls before) {
        for (double share : new double[] {Double.MIN_VALUE, 0.5, Math.nextDown(1.0)}) {
            check.refused("take(" + share + ") of " + name, before, mash -> mash.take(share), MashEnzymes.NONE);
        }
    }

    private static void atTheLastSecond(Check check) {
        MashEnzymes mash = new MashEnzymes();
        States.atTheLastSecond(mash);
        double water = mash.water();
        check.is("take(0.5) at the last second", mash.take(0.5), 0);
        check.is("water() at the last second", mash.water(), water * 0.5);
        check.is("back(0, 60) at the last second", mash.back(0, 60), true);
        check.is("water() with it back", mash.water(), water);
    }
}
