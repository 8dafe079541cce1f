/** Promise 4: enzyme. */
final class EnzymeTest {
    private static final double LEAST = Double.MIN_VALUE;
    private static final double INF = Double.POSITIVE_INFINITY;
    private static final double NAN = Double.NaN;

    public static void main(String[] args) {
        Check check = new Check();
        amountsAreAdded(check);
        enzymeMakesNoMash(check);
        kindsAreFour(check);
        amountsAreAboveNothing(check);
        amountsAreAtMostThousand(check);
        theSumIsNotLimited(check);
        allWrongIsRefusedToo(check);
        check.end();
    }

    private static void amountsAreAdded(Check check) {
        for (int kind = 0; kind < 4; kind++) {
            MashEnzymes mash = new MashEnzymes();
            check.is("enzyme(" + kind + ", 2.5)", mash.enzyme(kind, 2.5), true);
            check.is("enzyme(" + kind + ", 1000)", mash.enzyme(kind, 1000), true);
            for (int other = 0; other < 4; other++) {
                check.is("enzymeLeft(" + other + ")", mash.enzymeLeft(other), other == kind ? 1002.5 : 0);
            }
        }
    }

    private static void enzymeMakesNoMash(Check check) {
        MashEnzymes mash = new MashEnzymes();
        mash.liquor(1, 50, 5.5);
        mash.enzyme(0, 5);
        check.is("run(1) without grain", mash.run(1), MashEnzymes.NONE);
    }

    private static void kindsAreFour(Check check) {
        check.is("enzyme(0, 1), the first kind", new MashEnzymes().enzyme(0, 1), true);
        check.is("enzyme(3, 1), the last kind", new MashEnzymes().enzyme(3, 1), true);
        for (int kind : new int[] {-1, 4, 5, Integer.MIN_VALUE, Integer.MAX_VALUE}) {
            refused(check, kind, 1);
        }
    }

    private static void amountsAreAboveNothing(Check check) {
        for (int kind = 0; kind < 4; kind++) {
            MashEnzymes mash = new MashEnzymes();
            check.is("enzyme(" + kind + ", least)", mash.enzyme(kind, LEAST), true);
            check.is("enzymeLeft(" + kind + ") of the least", mash.enzymeLeft(kind), LEAST);
        }
        for (double amount : new double[] {0, -0.0, -LEAST, -1, -1000, -INF}) {
            refused(check, 1, amount);
        }
    }

    private static void amountsAreAtMostThousand(Check check) {
        for (double amount : new double[] {1000, Math.nextDown(1000.0)}) {
            MashEnzymes mash = new MashEnzymes();
            check.is("enzyme(3, " + amount + ")", mash.enzyme(3, amount), true);
            check.is("enzymeLeft(3) of " + amount, mash.enzymeLeft(3), amount);
        }
        for (double amount : new double[] {Math.nextUp(1000.0), 1000.125, 1001, 1e300, INF, NAN}) {
            refused(check, 0, amount);
        }
    }

    // The limit is one of each call, not of what is in the mash.
    private static void theSumIsNotLimited(Check check) {
        MashEnzymes mash = new MashEnzymes();
        mash.grain(1000, 0.5, 0);
        check.is("enzyme(0, 1000) beside 1000 of malt", mash.enzyme(0, 1000), true);
        check.is("enzyme(0, 1000) beside 2000", mash.enzyme(0, 1000), true);
        check.is("enzymeLeft(0)", mash.enzymeLeft(0), 3000);
    }

    private static void allWrongIsRefusedToo(Check check) {
        refused(check, -1, 0);
        refused(check, 4, 2000);
    }

    private static void refused(Check check, int kind, double amount) {
        String call = "enzyme(" + kind + ", " + amount + ")";
        check.refusedInEveryState(call, mash -> mash.enzyme(kind, amount), false);
    }
}
