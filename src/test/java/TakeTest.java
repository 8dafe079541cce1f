/** Promise 11: take. */
final class TakeTest {
    public static void main(String[] args) {
        Check check = new Check();
        theShareIsTakenOut(check);
        hiddenPartsAreTakenToo(check);
        eightAreAll(check);
        refusedBeforeFull(check);
        shareNextToTheEdges(check);
        wrongInputsAreRefused(check);
        check.end();
    }

    private static void told(MashEnzymes mash) {
        mash.grain(8, 0.5, 0);
        mash.liquor(20, 62, 5.25);
        mash.run(30);
    }

    private static void theShareIsTakenOut(Check check) {
        double share = 0.3;
        MashEnzymes mash = new MashEnzymes();
        MashEnzymes whole = new MashEnzymes();
        told(mash);
        told(whole);
        check.is("take(0.3)", mash.take(share), 0);
        check.is("degrees()", mash.degrees(), whole.degrees());
        check.is("water()", mash.water(), whole.water() - whole.water() * share);
        check.near("starch()", mash.starch(), whole.starch() * 0.7);
        for (int kind = 0; kind < 5; kind++) {
            check.is("sugar(" + kind + ")", mash.sugar(kind), whole.sugar(kind) - whole.sugar(kind) * share);
        }
        for (int e = 0; e < 4; e++) {
            check.is("enzymeLeft(" + e + ")", mash.enzymeLeft(e), whole.enzymeLeft(e) - whole.enzymeLeft(e) * share);
        }
        check.is("run(0): no time has gone by", mash.run(0), 30);
    }

    // Raw grain has protein alone; half of it, with half of the enzyme and of the water, gives half of the acids.
    private static void hiddenPartsAreTakenToo(Check check) {
        MashEnzymes mash = new MashEnzymes();
        mash.grain(16, 1, 1);
        mash.liquor(16, 50, 5.5);
        mash.enzyme(3, 16);
        mash.enzyme(0, 16);
        mash.take(0.5);
        mash.run(1);
        check.is("sugar(4)", mash.sugar(4), 0.5 * 0.03125);
        check.is("sugar(2)", mash.sugar(2), 8 * (2 / 4096.0) * (2.0 / 10 * 0.0625) * 0.25);
    }

    private static void eightAreAll(Check check) {
        MashEnzymes mash = new MashEnzymes();
        told(mash);
        for (int number = 0; number < 8; number++) {
            check.is("take(0.125)", mash.take(0.125), number);
            if (number % 2 == 0) {
                mash.back(number, 70);
            }
        }
        double water = mash.water();
        check.is("take(0.125) after eight", mash.take(0.125), MashEnzymes.FULL);
        check.is("water() after FULL", mash.water(), water);
        mash.back(7, 70);
        check.is("take(0.125) after eight, some back", mash.take(0.125), MashEnzymes.FULL);
        check.changesNothing("take when full", TakeTest::full, again -> again.take(0.5));
    }

    private static void full(MashEnzymes mash) {
        told(mash);
        for (int i = 0; i < 8; i++) {
            mash.take(0.125);
        }
    }

    private static void refusedBeforeFull(Check check) {
        MashEnzymes mash = new MashEnzymes();
        full(mash);
        check.is("take(0) when full", mash.take(0), MashEnzymes.NONE);
        check.is("take(1) when full", mash.take(1), MashEnzymes.NONE);
        check.is("take(NaN) when full", mash.take(Double.NaN), MashEnzymes.NONE);
    }

    private static void shareNextToTheEdges(Check check) {
        MashEnzymes mash = new MashEnzymes();
        mash.grain(8, 0.5, 0);
        mash.liquor(16, 62, 5.25);
        check.is("take(least)", mash.take(Double.MIN_VALUE), 0);
        check.is("water() without the least", mash.water(), 16);
        check.is("take(nearly all)", mash.take(Math.nextDown(1.0)), 1);
        check.is("water() left", mash.water(), 16 - 16 * Math.nextDown(1.0));
        check.is("run(1) goes on", mash.run(1), 1);
    }

    private static void wrongInputsAreRefused(Check check) {
        double inf = Double.POSITIVE_INFINITY;
        for (double share : new double[] {0, -0.0, -0.5, 1, 1.5, inf, -inf, Double.NaN}) {
            MashEnzymes mash = new MashEnzymes();
            told(mash);
            check.is("take(" + share + ")", mash.take(share), MashEnzymes.NONE);
            check.changesNothing("take(" + share + ")", TakeTest::told, again -> again.take(share));
        }
        check.is("take(0.5) of nothing", new MashEnzymes().take(0.5), MashEnzymes.NONE);
        emptyIsRefused(check, "grain alone", mash -> mash.grain(8, 0.5, 0));
        emptyIsRefused(check, "liquor alone", mash -> mash.liquor(8, 50, 5.5));
    }

    private static void emptyIsRefused(Check check, String name, Check.Calls before) {
        MashEnzymes mash = new MashEnzymes();
        before.on(mash);
        check.is("take(0.5) of " + name, mash.take(0.5), MashEnzymes.NONE);
        check.changesNothing("take(0.5) of " + name, before, again -> again.take(0.5));
    }
}
