/** The terms: a mash is empty until some grain and some liquor have been told; run, take and converted ask it. */
final class EmptyMashTest {
    private static final double LEAST = Double.MIN_VALUE;

    public static void main(String[] args) {
        Check check = new Check();
        nothingToldIsEmpty(check);
        grainAloneIsEmpty(check);
        liquorAloneIsEmpty(check);
        enzymesAndStepsAreNoMash(check);
        refusedGrainIsNone(check);
        refusedLiquorIsNone(check);
        grainThenLiquorIsAMash(check);
        liquorThenGrainIsAMash(check);
        theLeastIsSome(check);
        grainWithoutStarchIsSome(check);
        aMashWithoutWaterIsNotEmpty(check);
        anEmptyMashIsStillTold(check);
        check.end();
    }

    private static void empty(Check check, String name, Check.Calls before) {
        check.refused("run(0) of " + name, before, mash -> mash.run(0), MashEnzymes.NONE);
        check.refused("run(1) of " + name, before, mash -> mash.run(1), MashEnzymes.NONE);
        check.refused("run(100000) of " + name, before, mash -> mash.run(100_000), MashEnzymes.NONE);
        check.refused("take(0.5) of " + name, before, mash -> mash.take(0.5), MashEnzymes.NONE);
        check.refused("converted() of " + name, before, MashEnzymes::converted, false);
    }

    private static void notEmpty(Check check, String name, Check.Calls before) {
        MashEnzymes mash = new MashEnzymes();
        before.on(mash);
        check.is("run(0) of " + name, mash.run(0), 0);
        check.is("run(1) of " + name, mash.run(1), 1);
        check.is("take(0.5) of " + name, mash.take(0.5), 0);
    }

    private static void nothingToldIsEmpty(Check check) {
        empty(check, "nothing", mash -> { });
    }

    private static void grainAloneIsEmpty(Check check) {
        for (int kind = 0; kind < 3; kind++) {
            int one = kind;
            empty(check, "grain of kind " + kind, mash -> mash.grain(5, 0.5, one));
        }
        empty(check, "grain without starch", mash -> mash.grain(5, 0, 0));
    }

    private static void liquorAloneIsEmpty(Check check) {
        empty(check, "liquor", mash -> mash.liquor(5, 60, 5.5));
    }

    private static void enzymesAndStepsAreNoMash(Check check) {
        empty(check, "liquor with enzyme and step", mash -> {
            mash.liquor(5, 60, 5.5);
            mash.enzyme(0, 5);
            mash.step(5, 50);
        });
        empty(check, "grain with enzyme and step", mash -> {
            mash.grain(5, 0.5, 0);
            mash.enzyme(0, 5);
            mash.step(5, 50);
        });
    }

    private static void refusedGrainIsNone(Check check) {
        empty(check, "liquor and grain of no weight", mash -> {
            mash.liquor(5, 60, 5.5);
            mash.grain(0, 0.5, 0);
        });
        empty(check, "liquor and grain of no kind", mash -> {
            mash.liquor(5, 60, 5.5);
            mash.grain(5, 0.5, 3);
        });
    }

    private static void refusedLiquorIsNone(Check check) {
        empty(check, "grain and no litres", mash -> {
            mash.grain(5, 0.5, 0);
            mash.liquor(0, 60, 5.5);
        });
        empty(check, "grain and too sour liquor", mash -> {
            mash.grain(5, 0.5, 0);
            mash.liquor(5, 60, 2);
        });
    }

    private static void grainThenLiquorIsAMash(Check check) {
        notEmpty(check, "grain, then liquor", mash -> {
            mash.grain(5, 0.5, 0);
            mash.liquor(5, 60, 5.5);
        });
    }

    private static void liquorThenGrainIsAMash(Check check) {
        notEmpty(check, "liquor, then grain", mash -> {
            mash.liquor(5, 60, 5.5);
            mash.grain(5, 0.5, 0);
        });
    }

    private static void theLeastIsSome(Check check) {
        notEmpty(check, "the least grain and liquor", mash -> {
            mash.grain(LEAST, LEAST, 1);
            mash.liquor(LEAST, 0, 3);
        });
    }

    private static void grainWithoutStarchIsSome(Check check) {
        Check.Calls before = mash -> {
            mash.grain(5, 0, 1);
            mash.liquor(5, 60, 5.5);
        };
        notEmpty(check, "grain without starch", before);
        MashEnzymes mash = new MashEnzymes();
        before.on(mash);
        check.is("converted() without starch", mash.converted(), true);
    }

    // Told is told: that all of the water has been taken out makes no empty mash again.
    private static void aMashWithoutWaterIsNotEmpty(Check check) {
        MashEnzymes mash = new MashEnzymes();
        States.withoutWater(mash);
        check.is("water()", mash.water(), 0);
        check.is("run(1) without water", mash.run(1), 1);
        check.is("take(0.5) without water", mash.take(0.5), 1);
        check.is("converted() without water", mash.converted(), false);
        check.is("take(0.9921875) without water", mash.take(0.9921875), 2);
        check.is("converted() with little starch", mash.converted(), true);
    }

    // What needs no mash works on an empty one, and holds when it is a mash.
    private static void anEmptyMashIsStillTold(Check check) {
        MashEnzymes mash = new MashEnzymes();
        check.is("step(1, 70) of an empty mash", mash.step(1, 70), true);
        check.is("enzyme(1, 2) of an empty mash", mash.enzyme(1, 2), true);
        check.is("enzymeLeft(1) of an empty mash", mash.enzymeLeft(1), 2);
        check.is("back(0, 60) of an empty mash", mash.back(0, 60), false);
        check.is("run(1) of an empty mash", mash.run(1), MashEnzymes.NONE);
        mash.liquor(5, 60, 5.5);
        check.is("degrees() of liquor alone", mash.degrees(), 60);
        check.is("water() of liquor alone", mash.water(), 5);
        mash.grain(5, 0.5, 1);
        check.is("run(1)", mash.run(1), 1);
        check.is("degrees() by the step", mash.degrees(), 70);
        check.is("enzymeLeft(1) by its decay", mash.enzymeLeft(1), 2 - 2 * (64 / 4096.0));
    }
}
