/** What the object is: 512 calls after it has been made are answered; the numbers below are all of them. */
final class LongUseTest {
    private static final int CALLS = 512;

    public static void main(String[] args) {
        Check check = new Check();
        grainToTheLastCall(check);
        liquorToTheLastCall(check);
        enzymeToTheLastCall(check);
        stepsToTheLastCall(check);
        runsToTheLastCall(check);
        takesToTheLastCall(check);
        toldStarchToTheLastCall(check);
        check.end();
    }

    private static void grainToTheLastCall(Check check) {
        MashEnzymes mash = new MashEnzymes();
        for (int call = 1; call <= CALLS - 2; call++) {
            check.is("grain(1000, 1, 0), call " + call, mash.grain(1000, 1, 0), true);
        }
        check.is("starch(), call 511", mash.starch(), 510_000);
        check.is("enzymeLeft(1), call 512", mash.enzymeLeft(1), 382_500);
    }

    private static void liquorToTheLastCall(Check check) {
        MashEnzymes mash = new MashEnzymes();
        for (int call = 1; call <= CALLS - 2; call++) {
            check.is("liquor(10000, 100, 8), call " + call, mash.liquor(10_000, 100, 8), true);
        }
        check.is("water(), call 511", mash.water(), 5_100_000);
        check.is("degrees(), call 512", mash.degrees(), 100);
    }

    private static void enzymeToTheLastCall(Check check) {
        MashEnzymes mash = new MashEnzymes();
        for (int call = 1; call <= CALLS - 2; call++) {
            check.is("enzyme(3, 1000), call " + call, mash.enzyme(3, 1000), true);
        }
        check.is("enzymeLeft(3), call 511", mash.enzymeLeft(3), 510_000);
        check.is("enzymeLeft(2), call 512", mash.enzymeLeft(2), 0);
    }

    private static void stepsToTheLastCall(Check check) {
        MashEnzymes mash = new MashEnzymes();
        for (int call = 1; call <= CALLS; call++) {
            check.is("step, call " + call, mash.step(call, 50), call <= 32);
        }
    }

    private static void runsToTheLastCall(Check check) {
        MashEnzymes mash = new MashEnzymes();
        States.mash(mash);
        for (int call = 3; call <= CALLS; call++) {
            check.is("run(1), call " + call, mash.run(1), call - 2);
        }
    }

    private static void takesToTheLastCall(Check check) {
        MashEnzymes mash = new MashEnzymes();
        States.mash(mash);
        for (int call = 3; call <= CALLS; call++) {
            check.is("take(0.5), call " + call, mash.take(0.5), call <= 10 ? call - 3 : MashEnzymes.FULL);
        }
    }

    private static void toldStarchToTheLastCall(Check check) {
        check.is("converted() at the limit, call 512", parted(127 / 128.0).converted(), true);
        check.is("converted() above it, call 512", parted(Math.nextDown(127 / 128.0)).converted(), false);
    }

    private static MashEnzymes parted(double share) {
        MashEnzymes mash = new MashEnzymes();
        for (int call = 1; call <= CALLS - 3; call++) {
            mash.grain(1000, 1, 1);
        }
        mash.liquor(1, 50, 5.5);
        mash.take(share);
        return mash;
    }
}
