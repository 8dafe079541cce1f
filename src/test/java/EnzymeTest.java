/** Promise 4: enzyme. */
final class EnzymeTest {
    public static void main(String[] args) {
        Check check = new Check();
        amountsAreAdded(check);
        enzymeMakesNoMash(check);
        wrongInputsAreRefused(check);
        check.end();
    }

    private static void amountsAreAdded(Check check) {
        for (int kind = 0; kind < 4; kind++) {
            MashEnzymes mash = new MashEnzymes();
            check.is("enzyme(" + kind + ", 2.5)", mash.enzyme(kind, 2.5), true);
            check.is("enzyme(" + kind + ", 1000)", mash.enzyme(kind, 1000), true);
            for (int other = 0; other < 4; other++) {
                check.is("enzymeLeft(" + other + ")", mash.enzymeLeft(other), other == kind ? 1002.5 : 0);
            }
        }
        MashEnzymes mash = new MashEnzymes();
        check.is("enzyme(2, least)", mash.enzyme(2, Double.MIN_VALUE), true);
        check.is("enzymeLeft(2)", mash.enzymeLeft(2), Double.MIN_VALUE);
    }

    private static void enzymeMakesNoMash(Check check) {
        MashEnzymes mash = new MashEnzymes();
        mash.liquor(1, 50, 5.5);
        mash.enzyme(0, 5);
        check.is("run(1) without grain", mash.run(1), MashEnzymes.NONE);
    }

    private static void wrongInputsAreRefused(Check check) {
        for (int kind : new int[] {-1, 4, Integer.MIN_VALUE, Integer.MAX_VALUE}) {
            refused(check, kind, 1);
        }
        double inf = Double.POSITIVE_INFINITY;
        for (double amount : new double[] {0, -0.0, -1, Math.nextUp(1000.0), inf, -inf, Double.NaN}) {
            refused(check, 1, amount);
        }
    }

    private static void refused(Check check, int kind, double amount) {
        String call = "enzyme(" + kind + ", " + amount + ")";
        check.is(call, new MashEnzymes().enzyme(kind, amount), false);
        check.changesNothing(call, mash -> mash.enzyme(0, 3), mash -> mash.enzyme(kind, amount));
    }
}
