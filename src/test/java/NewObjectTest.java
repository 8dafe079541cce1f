/** Promise 1: an empty mash at second 0; no steps, no decoctions. */
final class NewObjectTest {
    public static void main(String[] args) {
        Check check = new Check();
        allIsNothing(check);
        itIsSecond0(check);
        thereAreNoSteps(check);
        thereAreNoDecoctions(check);
        objectsAreApart(check);
        check.end();
    }

    private static void allIsNothing(Check check) {
        MashEnzymes mash = new MashEnzymes();
        check.is("degrees()", mash.degrees(), 0);
        check.is("water()", mash.water(), 0);
        check.is("starch()", mash.starch(), 0);
        for (int kind = 0; kind < 5; kind++) {
            check.is("sugar(" + kind + ")", mash.sugar(kind), 0);
        }
        for (int kind = 0; kind < 4; kind++) {
            check.is("enzymeLeft(" + kind + ")", mash.enzymeLeft(kind), 0);
        }
        check.is("converted()", mash.converted(), false);
        check.is("run(0)", mash.run(0), MashEnzymes.NONE);
        check.is("take(0.5)", mash.take(0.5), MashEnzymes.NONE);
    }

    private static void itIsSecond0(Check check) {
        MashEnzymes mash = new MashEnzymes();
        check.is("step(0, 50)", mash.step(0, 50), false);
        check.is("step(1, 50)", mash.step(1, 50), true);
        States.mash(mash);
        check.is("run(0) at second 0", mash.run(0), 0);
        check.is("run(1) at second 0", mash.run(1), 1);
    }

    private static void thereAreNoSteps(Check check) {
        MashEnzymes mash = new MashEnzymes();
        States.mash(mash);
        mash.run(100_000);
        check.is("degrees() is not heated", mash.degrees(), 52);
        MashEnzymes other = new MashEnzymes();
        for (int second = 1; second <= 32; second++) {
            check.is("step " + second + " of 32", other.step(second, 50), true);
        }
    }

    private static void thereAreNoDecoctions(Check check) {
        MashEnzymes mash = new MashEnzymes();
        for (int decoction = 0; decoction < 9; decoction++) {
            check.is("back(" + decoction + ", 50)", mash.back(decoction, 50), false);
        }
        States.mash(mash);
        for (int decoction = 0; decoction < 8; decoction++) {
            check.is("take(0.5)", mash.take(0.5), decoction);
        }
    }

    private static void objectsAreApart(Check check) {
        MashEnzymes other = new MashEnzymes();
        other.grain(1, 0.5, 0);
        other.liquor(1, 50, 5.5);
        other.step(5, 70);
        other.run(9);
        other.take(0.5);
        check.same("a second object", new MashEnzymes(), new MashEnzymes());
        check.is("water() of a second object", new MashEnzymes().water(), 0);
        check.is("back(0, 50) of a second object", new MashEnzymes().back(0, 50), false);
    }
}
