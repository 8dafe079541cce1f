/** Promise 2: grain. */
final class GrainTest {
    private static final double NAN = Double.NaN;

    public static void main(String[] args) {
        Check check = new Check();
        kindsBringTheirEnzymes(check);
        kindsBringTheirProtein(check);
        grainAddsUp(check);
        edgesAreTaken(check);
        wrongInputsAreRefused(check);
        check.end();
    }

    private static void kindsBringTheirEnzymes(Check check) {
        double[][] due = {{8, 6, 2, 4}, {0, 0, 0, 0}, {4, 3, 1, 2}};
        for (int kind = 0; kind < 3; kind++) {
            MashEnzymes mash = new MashEnzymes();
            check.is("grain(8, 0.5, " + kind + ")", mash.grain(8, 0.5, kind), true);
            check.is("starch() of kind " + kind, mash.starch(), 4);
            for (int e = 0; e < 4; e++) {
                check.is("enzymeLeft(" + e + ") of kind " + kind, mash.enzymeLeft(e), due[kind][e]);
            }
        }
    }

    // At 50 degrees, acidity 5.5 and as much water as protein enzyme, a 32nd of the protein is split in a second.
    private static void kindsBringTheirProtein(Check check) {
        double[] due = {1, 0.5, 1.5};
        for (int kind = 0; kind < 3; kind++) {
            MashEnzymes mash = new MashEnzymes();
            mash.grain(8, 0, kind);
            mash.enzyme(3, 16 - mash.enzymeLeft(3));
            mash.liquor(16, 50, 5.5);
            mash.run(1);
            check.is("sugar(4) of kind " + kind, mash.sugar(4), due[kind] / 32);
        }
    }

    private static void grainAddsUp(Check check) {
        MashEnzymes mash = new MashEnzymes();
        mash.grain(8, 0.5, 0);
        mash.grain(4, 0.25, 2);
        mash.grain(2, 1, 1);
        check.is("starch() of three grains", mash.starch(), 7);
        check.is("enzymeLeft(0) of three grains", mash.enzymeLeft(0), 10);
        check.is("enzymeLeft(1) of three grains", mash.enzymeLeft(1), 7.5);
        check.is("enzymeLeft(2) of three grains", mash.enzymeLeft(2), 2.5);
        check.is("enzymeLeft(3) of three grains", mash.enzymeLeft(3), 5);
    }

    private static void edgesAreTaken(Check check) {
        MashEnzymes mash = new MashEnzymes();
        check.is("grain(1000, 1, 1)", mash.grain(1000, 1, 1), true);
        check.is("grain(least, 0, 1)", mash.grain(Double.MIN_VALUE, 0, 1), true);
        check.is("grain(1, -0.0, 0)", mash.grain(1, -0.0, 0), true);
        check.is("starch()", mash.starch(), 1000);
    }

    private static void wrongInputsAreRefused(Check check) {
        double[] wrongKg = {0, -0.0, -1, Math.nextUp(1000.0), Double.POSITIVE_INFINITY, Double.NEGATIVE_INFINITY, NAN};
        for (double kg : wrongKg) {
            refused(check, kg, 0.5, 0);
        }
        double[] wrongStarch = {-Double.MIN_VALUE, -1, Math.nextUp(1.0), Double.POSITIVE_INFINITY, NAN};
        for (double starch : wrongStarch) {
            refused(check, 5, starch, 0);
        }
        int[] wrongKinds = {-1, 3, Integer.MIN_VALUE, Integer.MAX_VALUE};
        for (int kind : wrongKinds) {
            refused(check, 5, 0.5, kind);
        }
        MashEnzymes mash = new MashEnzymes();
        mash.grain(0, 0.5, 0);
        mash.liquor(1, 50, 5.5);
        check.is("run(1) with refused grain alone", mash.run(1), MashEnzymes.NONE);
    }

    private static void refused(Check check, double kg, double starch, int kind) {
        String call = "grain(" + kg + ", " + starch + ", " + kind + ")";
        check.is(call, new MashEnzymes().grain(kg, starch, kind), false);
        check.changesNothing(call, mash -> mash.liquor(3, 55, 5.5), mash -> mash.grain(kg, starch, kind));
    }
}
