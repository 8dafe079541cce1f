import java.util.LinkedHashMap;
import java.util.Map;

/** The states of an object in which refused calls are tried, by their names. */
final class States {
    private static final int STEPS = 32;
    private static final int DECOCTIONS = 8;

    private States() {
    }

    static Map<String, Check.Calls> all() {
        Map<String, Check.Calls> states = new LinkedHashMap<>();
        states.put("a new object", mash -> { });
        states.put("grain alone", mash -> mash.grain(3, 0.5, 0));
        states.put("liquor alone", mash -> mash.liquor(3, 55, 5.5));
        states.put("a step and an enzyme alone", States::stepAndEnzyme);
        states.put("a mash at second 0", States::mash);
        states.put("a mash on its way", States::onItsWay);
        states.put("a mash with 32 steps and 8 decoctions", States::full);
        states.put("a mash with 32 steps gone by and 8 decoctions back", States::fullAndOver);
        states.put("a mash without water", States::withoutWater);
        return states;
    }

    static void mash(MashEnzymes mash) {
        mash.grain(8, 0.5, 0);
        mash.liquor(20, 52, 5.25);
    }

    private static void stepAndEnzyme(MashEnzymes mash) {
        mash.step(9, 70);
        mash.enzyme(2, 3);
    }

    private static void onItsWay(MashEnzymes mash) {
        mash(mash);
        mash.step(20, 60);
        mash.step(100, 66);
        mash.run(30);
        mash.take(0.25);
        mash.take(0.5);
        mash.back(1, 70);
        mash.run(10);
    }

    static void thirtyTwoSteps(MashEnzymes mash) {
        for (int i = 1; i <= STEPS; i++) {
            mash.step(i, 50 + i / 2);
        }
    }

    static void eightDecoctions(MashEnzymes mash) {
        for (int i = 0; i < DECOCTIONS; i++) {
            mash.take(0.125);
        }
    }

    private static void full(MashEnzymes mash) {
        mash(mash);
        thirtyTwoSteps(mash);
        mash.run(5);
        eightDecoctions(mash);
    }

    private static void fullAndOver(MashEnzymes mash) {
        full(mash);
        mash.run(50);
        for (int i = 0; i < DECOCTIONS; i++) {
            mash.back(i, 60);
        }
    }

    // Three quarters of the least double round to all of it.
    static void withoutWater(MashEnzymes mash) {
        mash.grain(8, 0.5, 0);
        mash.liquor(Double.MIN_VALUE, 52, 5.5);
        mash.take(0.75);
    }

    /** Not among all of them: it takes a million seconds. */
    static void atTheLastSecond(MashEnzymes mash) {
        mash(mash);
        mash.step(1_000_000, 60);
        for (int i = 0; i < 10; i++) {
            mash.run(100_000);
        }
    }
}
