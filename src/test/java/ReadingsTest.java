/** Promises 7, 8, 9, 10 and 13: sugar, starch, enzymeLeft, degrees and water. */
final class ReadingsTest {
    public static void main(String[] args) {
        Check check = new Check();
        sugarsAreFive(check);
        enzymesAreFour(check);
        emptyIsReadToo(check);
        eachReadingIsItsOwn(check);
        starchIsRawAndGelled(check);
        decoctionsAreNotInTheMash(check);
        readingChangesNothing(check);
        check.end();
    }

    private static void told(MashEnzymes mash) {
        mash.grain(64, 1, 1);
        mash.liquor(16, 60, 5.5);
        mash.enzyme(0, 32);
        mash.enzyme(1, 16);
        mash.enzyme(2, 8);
        mash.enzyme(3, 4);
    }

    private static void sugarsAreFive(Check check) {
        MashEnzymes mash = new MashEnzymes();
        told(mash);
        mash.run(1);
        check.is("sugar(0), the first kind, is above 0", mash.sugar(0) > 0, true);
        check.is("sugar(4), the last kind, is above 0", mash.sugar(4) > 0, true);
        for (int kind : new int[] {-1, 5, 6, 8, Integer.MIN_VALUE, Integer.MAX_VALUE}) {
            check.refusedInEveryState("sugar(" + kind + ")", any -> any.sugar(kind), -1.0);
        }
    }

    private static void enzymesAreFour(Check check) {
        MashEnzymes mash = new MashEnzymes();
        told(mash);
        check.is("enzymeLeft(0), the first kind", mash.enzymeLeft(0), 32);
        check.is("enzymeLeft(3), the last kind", mash.enzymeLeft(3), 4);
        for (int kind : new int[] {-1, 4, 5, 8, Integer.MIN_VALUE, Integer.MAX_VALUE}) {
            check.refusedInEveryState("enzymeLeft(" + kind + ")", any -> any.enzymeLeft(kind), -1.0);
        }
    }

    // An empty mash is read like any other.
    private static void emptyIsReadToo(Check check) {
        MashEnzymes grain = new MashEnzymes();
        grain.grain(8, 0.5, 2);
        check.is("starch() of grain alone", grain.starch(), 4);
        check.is("enzymeLeft(0) of grain alone", grain.enzymeLeft(0), 4);
        check.is("water() of grain alone", grain.water(), 0);
        check.is("degrees() of grain alone", grain.degrees(), 0);
        check.is("sugar(0) of grain alone", grain.sugar(0), 0);
        MashEnzymes liquor = new MashEnzymes();
        liquor.liquor(8, 50, 5.5);
        check.is("starch() of liquor alone", liquor.starch(), 0);
        check.is("enzymeLeft(0) of liquor alone", liquor.enzymeLeft(0), 0);
        check.is("water() of liquor alone", liquor.water(), 8);
        check.is("degrees() of liquor alone", liquor.degrees(), 50);
        check.is("sugar(4) of liquor alone", liquor.sugar(4), 0);
    }

    private static void eachReadingIsItsOwn(Check check) {
        MashEnzymes mash = new MashEnzymes();
        told(mash);
        check.is("degrees()", mash.degrees(), 60);
        check.is("water()", mash.water(), 16);
        check.is("starch()", mash.starch(), 64);
        double[] enzymes = {32, 16, 8, 4};
        for (int e = 0; e < 4; e++) {
            check.is("enzymeLeft(" + e + ")", mash.enzymeLeft(e), enzymes[e]);
        }
        mash.run(1);
        double gelled = 0.25;
        double split = gelled * 0.03125;
        double toMaltose = split * 0.75 * 0.03125;
        double toGlucose = (split * 0.75 - toMaltose) * (8.0 / 24 * 0.0625);
        check.is("glucose", mash.sugar(0), toGlucose * 1.125);
        check.is("maltose", mash.sugar(1), toMaltose * 1.0625);
        check.is("maltotriose", mash.sugar(2), split * 0.25);
        check.is("dextrins", mash.sugar(3), split * 0.75 - toMaltose - toGlucose);
        check.is("amino acids", mash.sugar(4), 4 * (3.0 / 19 * 0.0625));
        check.is("degrees() at rest", mash.degrees(), 60);
        check.is("water() used up", mash.water(), 16 - toMaltose * 0.0625 - toGlucose * 0.125);
    }

    private static void starchIsRawAndGelled(Check check) {
        MashEnzymes mash = new MashEnzymes();
        mash.grain(8, 0.5, 1);
        mash.liquor(8, 90, 5.5);
        mash.run(1);
        check.is("starch() partly gelled", mash.starch(), 4);
        mash.run(1000);
        check.near("starch() all gelled", mash.starch(), 4);
    }

    private static void decoctionsAreNotInTheMash(Check check) {
        MashEnzymes mash = new MashEnzymes();
        told(mash);
        mash.run(1);
        MashEnzymes whole = new MashEnzymes();
        told(whole);
        whole.run(1);
        mash.take(0.75);
        check.is("water()", mash.water(), whole.water() - whole.water() * 0.75);
        check.is("degrees()", mash.degrees(), 60);
        for (int kind = 0; kind < 5; kind++) {
            check.is("sugar(" + kind + ")", mash.sugar(kind), whole.sugar(kind) - whole.sugar(kind) * 0.75);
        }
        for (int e = 0; e < 4; e++) {
            check.is("enzymeLeft(" + e + ")", mash.enzymeLeft(e), whole.enzymeLeft(e) - whole.enzymeLeft(e) * 0.75);
        }
    }

    private static void readingChangesNothing(Check check) {
        check.changesNothing("readings", ReadingsTest::told, mash -> {
            mash.degrees();
            mash.water();
            mash.starch();
            mash.converted();
            for (int kind = -1; kind < 6; kind++) {
                mash.sugar(kind);
                mash.enzymeLeft(kind);
            }
        });
    }
}
