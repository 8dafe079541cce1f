import java.util.Random;

/**
 * All promises: runs of calls drawn by a fixed seed, each answer held against the plain model's. No object is used for
 * more than 512 calls.
 */
final class RandomRunsTest {
    private static final int OBJECTS = 3000;
    private static final int LONG_OBJECTS = 12;
    private static final int MOST_CALLS = 512;
    private static final int READINGS = 4 + 2 * 7;
    private static final double[] ODD = {
        0, -0.0, -1, 1, Double.MIN_VALUE, -Double.MIN_VALUE, 1e-310, 1e-160, 3, 8, 100, 1000, 10000, 1e300, -1e300,
        Double.NaN, Double.POSITIVE_INFINITY, Double.NEGATIVE_INFINITY};
    private static final int[] ODD_INTS = {
        -1, 0, 1, 2, 3, 4, 5, 7, 8, 100_000, 100_001, 1_000_000, 1_000_001, Integer.MAX_VALUE, Integer.MIN_VALUE};

    private final Check check = new Check();
    private final Random random;
    private final MashEnzymes mash = new MashEnzymes();
    private final PlainModel model = new PlainModel();
    private final String name;
    private final boolean isLong;

    private RandomRunsTest(int seed) {
        random = new Random(seed);
        name = "seed " + seed + ", call ";
        isLong = seed < LONG_OBJECTS;
    }

    public static void main(String[] args) {
        for (int seed = 0; seed < OBJECTS; seed++) {
            RandomRunsTest run = new RandomRunsTest(seed);
            run.allCalls();
            run.check.end();
        }
    }

    private void allCalls() {
        int calls = 0;
        while (calls + 3 + READINGS <= MOST_CALLS) {
            call(name + calls);
            compareOneReading(name + (calls + 1), random.nextInt(READINGS));
            compareOneReading(name + (calls + 2), random.nextInt(READINGS));
            calls += 3;
        }
        for (int reading = 0; reading < READINGS; reading++) {
            compareOneReading(name + (calls + reading), reading);
        }
    }

    private double number(double from, double to) {
        int dice = random.nextInt(48);
        if (dice == 0) {
            return ODD[random.nextInt(ODD.length)];
        }
        if (dice < 4) {
            double edge = random.nextBoolean() ? from : to;
            return random.nextBoolean() ? edge : random.nextBoolean() ? Math.nextUp(edge) : Math.nextDown(edge);
        }
        if (dice < 10) {
            return from + Math.rint((to - from) * random.nextDouble());
        }
        return from + (to - from) * random.nextDouble();
    }

    private int whole(int bound) {
        return random.nextInt(24) == 0 ? ODD_INTS[random.nextInt(ODD_INTS.length)] : random.nextInt(bound);
    }

    private void call(String at) {
        switch (random.nextInt(8)) {
            case 0 -> tellGrain(at);
            case 1 -> tellLiquor(at);
            case 2 -> tellEnzyme(at);
            case 3 -> tellStep(at);
            case 4 -> takeSome(at);
            case 5 -> bringBack(at);
            default -> letRun(at);
        }
    }

    private void tellGrain(String at) {
        double kg = number(0, random.nextBoolean() ? 10 : 1000);
        double starch = number(0, 1);
        int kind = whole(3);
        check.is(at + ": grain", mash.grain(kg, starch, kind), model.grain(kg, starch, kind));
    }

    private void tellLiquor(String at) {
        double litres = number(0, random.nextBoolean() ? 1 : 100);
        double degrees = number(0, 100);
        double acidity = number(3, 8);
        check.is(at + ": liquor", mash.liquor(litres, degrees, acidity), model.liquor(litres, degrees, acidity));
    }

    private void tellEnzyme(String at) {
        int kind = whole(4);
        double amount = number(0, 100);
        check.is(at + ": enzyme", mash.enzyme(kind, amount), model.enzyme(kind, amount));
    }

    private void tellStep(String at) {
        int second = Math.max(0, model.run(0)) + whole(300);
        double degrees = number(0, 100);
        check.is(at + ": step", mash.step(second, degrees), model.step(second, degrees));
    }

    private void takeSome(String at) {
        double share = number(0, 1);
        check.is(at + ": take", mash.take(share), model.take(share));
    }

    private void bringBack(String at) {
        int decoction = whole(9);
        double degrees = number(0, 100);
        check.is(at + ": back", mash.back(decoction, degrees), model.back(decoction, degrees));
    }

    private void letRun(String at) {
        int seconds = isLong ? whole(100_002) : random.nextInt(200) == 0 ? whole(20_000) : random.nextInt(60);
        check.is(at + ": run", mash.run(seconds), model.run(seconds));
    }

    private void compareOneReading(String at, int reading) {
        int kind = reading / 2 - 3;
        switch (reading) {
            case 0 -> check.is(at + ": degrees", mash.degrees(), model.degrees());
            case 1 -> check.is(at + ": water", mash.water(), model.water());
            case 2 -> check.is(at + ": starch", mash.starch(), model.starch());
            case 3 -> check.is(at + ": converted", mash.converted(), model.converted());
            default -> {
                if (reading % 2 == 0) {
                    check.is(at + ": sugar " + kind, mash.sugar(kind), model.sugar(kind));
                } else {
                    check.is(at + ": enzymeLeft " + kind, mash.enzymeLeft(kind), model.enzymeLeft(kind));
                }
            }
        }
    }
}
