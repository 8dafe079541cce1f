/** Promise 2: grain. */
final class GrainTest {
    private static final double LEAST = Double.MIN_VALUE;
    private static final double INF = Double.POSITIVE_INFINITY;
    private static final double NAN = Double.NaN;

    public static void main(String[] args) {
        Check check = new Check();
        kindsBringTheirEnzymes(check);
        kindsBringTheirProtein(check);
        grainAddsUp(check);
        kgAreAboveNothing(check);
        kgAreAtMostThousand(check);
        starchIsAtLeastNothing(check);
        starchIsAtMostAll(check);
        kindsAreThree(check);
        allWrongIsRefusedToo(check);
        check.end();
    }

    private static void kindsBringTheirEnzymes(Check check) {
        double[][] due = {{8, 6, 2, 4}, {0, 0, 0, 0}, {4, 3, 1, 2}};
        for (int kind = 0; kind < 3; kind++) {
            MashEnzymes mash = new MashEnzymes();
            check.is("grain(8, 0.5, " + kind + ")", mash.grain(8, 0.5, kind), true);
            check.is("starch() of kind " + kind, mash.starch(), 4);
            for (int e = 0; e < 4; e++) {
                check.is("enzymeLeft(" + e + ") of kind " + kind, mash.enzymeLeft(e), due[kind][e]);
            }
        }
    }

    // At 50 degrees, acidity 5.5 and as much water as protein enzyme, a 32nd of the protein is split in a second.
    private static void kindsBringTheirProtein(Check check) {
        double[] due = {1, 0.5, 1.5};
        for (int kind = 0; kind < 3; kind++) {
            MashEnzymes mash = new MashEnzymes();
            mash.grain(8, 0, kind);
            mash.enzyme(3, 16 - mash.enzymeLeft(3));
            mash.liquor(16, 50, 5.5);
            mash.run(1);
            check.is("sugar(4) of kind " + kind, mash.sugar(4), due[kind] / 32);
        }
    }

    private static void grainAddsUp(Check check) {
        MashEnzymes mash = new MashEnzymes();
        mash.grain(8, 0.5, 0);
        mash.grain(4, 0.25, 2);
        mash.grain(2, 1, 1);
        check.is("starch() of three grains", mash.starch(), 7);
        check.is("enzymeLeft(0) of three grains", mash.enzymeLeft(0), 10);
        check.is("enzymeLeft(1) of three grains", mash.enzymeLeft(1), 7.5);
        check.is("enzymeLeft(2) of three grains", mash.enzymeLeft(2), 2.5);
        check.is("enzymeLeft(3) of three grains", mash.enzymeLeft(3), 5);
    }

    private static void kgAreAboveNothing(Check check) {
        for (int kind = 0; kind < 3; kind++) {
            MashEnzymes mash = new MashEnzymes();
            check.is("grain(least, 1, " + kind + ")", mash.grain(LEAST, 1, kind), true);
            check.is("starch() of the least grain", mash.starch(), LEAST);
        }
        MashEnzymes mash = new MashEnzymes();
        mash.grain(LEAST, 1, 0);
        double[] perKg = {1, 0.75, 0.25, 0.5};
        for (int e = 0; e < 4; e++) {
            check.is("enzymeLeft(" + e + ") of the least malt", mash.enzymeLeft(e), LEAST * perKg[e]);
        }
        for (double kg : new double[] {0, -0.0, -LEAST, -1, -1000, -INF}) {
            refused(check, kg, 0.5, 0);
        }
    }

    private static void kgAreAtMostThousand(Check check) {
        for (double kg : new double[] {1000, Math.nextDown(1000.0)}) {
            MashEnzymes mash = new MashEnzymes();
            check.is("grain(" + kg + ", 1, 2)", mash.grain(kg, 1, 2), true);
            check.is("starch() of " + kg + " kg", mash.starch(), kg);
            check.is("enzymeLeft(0) of " + kg + " kg", mash.enzymeLeft(0), kg * 0.5);
        }
        for (double kg : new double[] {Math.nextUp(1000.0), 1000.125, 1001, 1e300, INF, NAN}) {
            refused(check, kg, 0.5, 0);
        }
    }

    private static void starchIsAtLeastNothing(Check check) {
        for (double starch : new double[] {0, -0.0, LEAST}) {
            MashEnzymes mash = new MashEnzymes();
            check.is("grain(8, " + starch + ", 0)", mash.grain(8, starch, 0), true);
            check.is("starch() of 8 times " + starch, mash.starch(), 8 * starch);
            check.is("enzymeLeft(0) of 8 kg with starch " + starch, mash.enzymeLeft(0), 8);
        }
        for (double starch : new double[] {-LEAST, -0.125, -1, -INF}) {
            refused(check, 5, starch, 0);
        }
    }

    private static void starchIsAtMostAll(Check check) {
        for (double starch : new double[] {1, Math.nextDown(1.0)}) {
            MashEnzymes mash = new MashEnzymes();
            check.is("grain(8, " + starch + ", 1)", mash.grain(8, starch, 1), true);
            check.is("starch() of 8 times " + starch, mash.starch(), 8 * starch);
        }
        for (double starch : new double[] {Math.nextUp(1.0), 1.125, 2, INF, NAN}) {
            refused(check, 5, starch, 0);
        }
    }

    private static void kindsAreThree(Check check) {
        check.is("grain(1, 1, 0), the first kind", new MashEnzymes().grain(1, 1, 0), true);
        check.is("grain(1, 1, 2), the last kind", new MashEnzymes().grain(1, 1, 2), true);
        for (int kind : new int[] {-1, 3, 4, Integer.MIN_VALUE, Integer.MAX_VALUE}) {
            refused(check, 5, 0.5, kind);
        }
    }

    // One right argument must not save a wrong one.
    private static void allWrongIsRefusedToo(Check check) {
        refused(check, 0, 2, 3);
        refused(check, 2000, -1, -1);
        refused(check, NAN, NAN, 0);
    }

    private static void refused(Check check, double kg, double starch, int kind) {
        String call = "grain(" + kg + ", " + starch + ", " + kind + ")";
        check.refusedInEveryState(call, mash -> mash.grain(kg, starch, kind), false);
    }
}
