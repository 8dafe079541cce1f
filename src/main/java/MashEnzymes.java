/**
 * A mash whose starch gels and is turned to sugars by four enzymes, second by second.
 *
 * <p>Ranges of doubles are tested in the form "is inside", never "is outside": NaN is then refused too.
 */
public final class MashEnzymes {
    public static final int NONE = -1;
    public static final int FULL = -2;

    private static final int LAST_SECOND = 1_000_000;
    private static final int MOST_SECONDS = 100_000;
    private static final int MOST_STEPS = 32;
    private static final int MOST_DECOCTIONS = 8;
    private static final int MOST_DEGREES = 100;

    private static final int GRAIN_KINDS = 3;
    private static final int SUGAR_KINDS = 5;
    private static final int ENZYME_KINDS = 4;

    private static final int ALPHA = 0;
    private static final int BETA = 1;
    private static final int LIMIT = 2;
    private static final int PROTEIN_ENZYME = 3;

    // The amounts of which a decoction takes its share stand in one array, so that parting and joining are one loop.
    private static final int WATER = 0;
    private static final int RAW_STARCH = 1;
    private static final int GELLED_STARCH = 2;
    private static final int SUGARS = 3;
    private static final int GLUCOSE = SUGARS;
    private static final int MALTOSE = SUGARS + 1;
    private static final int MALTOTRIOSE = SUGARS + 2;
    private static final int DEXTRINS = SUGARS + 3;
    private static final int AMINO_ACIDS = SUGARS + 4;
    private static final int PROTEIN = SUGARS + SUGAR_KINDS;
    private static final int ENZYMES = PROTEIN + 1;
    private static final int AMOUNTS = ENZYMES + ENZYME_KINDS;

    // Per kg of malt, raw grain and wheat: protein in sixteenths, the four enzymes in eighths.
    private static final int[] GRAIN_PROTEIN = {2, 1, 3};
    private static final int[] GRAIN_ENZYMES = {
        8, 6, 2, 4,
        0, 0, 0, 0,
        4, 3, 1, 2
    };

    private final double[] amounts = new double[AMOUNTS];
    private final double[][] decoctions = new double[MOST_DECOCTIONS][AMOUNTS];
    private final boolean[] isBack = new boolean[MOST_DECOCTIONS];
    private final double[] actions = new double[ENZYME_KINDS];
    private final Heating heating = new Heating();
    private final Rows rows = new Rows();
    private int decoctionCount;
    private int now;
    private double temperature;
    private double sourness;
    private double toldStarch;
    private boolean grainTold;
    private boolean liquorTold;

    public MashEnzymes() {
    }

    public boolean grain(double kg, double starch, int kind) {
        boolean fits = kg > 0 && kg <= 1000 && starch >= 0 && starch <= 1;
        if (!fits || kind < 0 || kind >= GRAIN_KINDS) {
            return false;
        }
        amounts[RAW_STARCH] = amounts[RAW_STARCH] + kg * starch;
        toldStarch = toldStarch + kg * starch;
        amounts[PROTEIN] = amounts[PROTEIN] + kg * (GRAIN_PROTEIN[kind] / 16.0);
        for (int e = 0; e < ENZYME_KINDS; e++) {
            double perKg = GRAIN_ENZYMES[kind * ENZYME_KINDS + e] / 8.0;
            amounts[ENZYMES + e] = amounts[ENZYMES + e] + kg * perKg;
        }
        grainTold = true;
        return true;
    }

    public boolean liquor(double litres, double degrees, double acidity) {
        boolean fits = litres > 0 && litres <= 10_000 && isTemperature(degrees) && acidity >= 3 && acidity <= 8;
        if (!fits) {
            return false;
        }
        double water = amounts[WATER];
        temperature = mixed(temperature, water, degrees, litres);
        sourness = mixed(sourness, water, acidity, litres);
        amounts[WATER] = water + litres;
        liquorTold = true;
        return true;
    }

    public boolean enzyme(int kind, double amount) {
        boolean fits = amount > 0 && amount <= 1000;
        if (!fits || kind < 0 || kind >= ENZYME_KINDS) {
            return false;
        }
        amounts[ENZYMES + kind] = amounts[ENZYMES + kind] + amount;
        return true;
    }

    public boolean step(int second, double degrees) {
        if (second <= now || second > LAST_SECOND || !isTemperature(degrees)) {
            return false;
        }
        return heating.append(second, degrees);
    }

    public int run(int seconds) {
        if (isEmpty() || seconds < 0 || seconds > MOST_SECONDS || seconds > LAST_SECOND - now) {
            return NONE;
        }
        for (int i = 0; i < seconds; i++) {
            passSecond();
        }
        return now;
    }

    public double sugar(int kind) {
        return kind >= 0 && kind < SUGAR_KINDS ? amounts[SUGARS + kind] : -1;
    }

    public double starch() {
        return amounts[RAW_STARCH] + amounts[GELLED_STARCH];
    }

    public double enzymeLeft(int kind) {
        return kind >= 0 && kind < ENZYME_KINDS ? amounts[ENZYMES + kind] : -1;
    }

    public double degrees() {
        return temperature;
    }

    public int take(double share) {
        boolean fits = share > 0 && share < 1;
        if (!fits || isEmpty()) {
            return NONE;
        }
        if (decoctionCount >= MOST_DECOCTIONS) {
            return FULL;
        }
        double[] decoction = decoctions[decoctionCount];
        for (int i = 0; i < AMOUNTS; i++) {
            decoction[i] = amounts[i] * share;
            amounts[i] = amounts[i] - decoction[i];
        }
        decoctionCount = decoctionCount + 1;
        return decoctionCount - 1;
    }

    public boolean back(int decoction, double degrees) {
        if (decoction < 0 || decoction >= decoctionCount || isBack[decoction] || !isTemperature(degrees)) {
            return false;
        }
        double[] joined = decoctions[decoction];
        temperature = mixed(temperature, amounts[WATER], degrees, joined[WATER]);
        for (int i = 0; i < AMOUNTS; i++) {
            amounts[i] = amounts[i] + joined[i];
        }
        isBack[decoction] = true;
        return true;
    }

    public double water() {
        return amounts[WATER];
    }

    public boolean converted() {
        return !isEmpty() && 128 * starch() <= toldStarch;
    }

    private boolean isEmpty() {
        return !grainTold || !liquorTold;
    }

    private static boolean isTemperature(double degrees) {
        return degrees >= 0 && degrees <= MOST_DEGREES;
    }

    /** The mean weighed by water. With no water on either side (both dwindled to 0) the first value stays. */
    private static double mixed(double value, double water, double otherValue, double otherWater) {
        double sum = water + otherWater;
        return sum > 0 ? (value * water + otherValue * otherWater) / sum : value;
    }

    private void passSecond() {
        temperature = heating.heated(temperature, now);
        rows.moveTo(temperature);
        reckonActions();
        gelStarch();
        splitGelledStarch();
        splitDextrinsToMaltose();
        splitDextrinsToGlucose();
        splitProtein();
        decayEnzymes();
        now = now + 1;
    }

    // All four are reckoned before anything is split: the water that a split uses up counts from the next second on.
    private void reckonActions() {
        double fitness = acidityFitness();
        double water = amounts[WATER];
        for (int e = 0; e < ENZYME_KINDS; e++) {
            double x = amounts[ENZYMES + e] * rows.rate(e) * fitness;
            actions[e] = x > 0 ? x / (x + water) * 0.0625 : 0;
        }
    }

    private double acidityFitness() {
        double fitness = 1 - (sourness - 5.5) * (sourness - 5.5) * 0.25;
        return fitness < 0 ? 0 : fitness;
    }

    private void gelStarch() {
        double gelled = amounts[RAW_STARCH] * rows.gelling();
        amounts[RAW_STARCH] = amounts[RAW_STARCH] - gelled;
        amounts[GELLED_STARCH] = amounts[GELLED_STARCH] + gelled;
    }

    private void splitGelledStarch() {
        double split = amounts[GELLED_STARCH] * actions[ALPHA];
        amounts[GELLED_STARCH] = amounts[GELLED_STARCH] - split;
        amounts[DEXTRINS] = amounts[DEXTRINS] + split * 0.75;
        amounts[MALTOTRIOSE] = amounts[MALTOTRIOSE] + split * 0.25;
    }

    private void splitDextrinsToMaltose() {
        double split = lesser(amounts[DEXTRINS] * actions[BETA], amounts[WATER] * 8);
        amounts[DEXTRINS] = amounts[DEXTRINS] - split;
        amounts[MALTOSE] = amounts[MALTOSE] + split * 1.0625;
        amounts[WATER] = amounts[WATER] - split * 0.0625;
    }

    private void splitDextrinsToGlucose() {
        double split = lesser(amounts[DEXTRINS] * actions[LIMIT], amounts[WATER] * 2);
        amounts[DEXTRINS] = amounts[DEXTRINS] - split;
        amounts[GLUCOSE] = amounts[GLUCOSE] + split * 1.125;
        amounts[WATER] = amounts[WATER] - split * 0.125;
    }

    private void splitProtein() {
        double split = amounts[PROTEIN] * actions[PROTEIN_ENZYME];
        amounts[PROTEIN] = amounts[PROTEIN] - split;
        amounts[AMINO_ACIDS] = amounts[AMINO_ACIDS] + split;
    }

    private void decayEnzymes() {
        for (int e = 0; e < ENZYME_KINDS; e++) {
            double left = amounts[ENZYMES + e];
            amounts[ENZYMES + e] = left - left * rows.decay(e);
        }
    }

    private static double lesser(double a, double b) {
        return b < a ? b : a;
    }

    /** The steps of heating, in the order of their seconds; steps gone by still count among the 32. */
    private static final class Heating {
        private final int[] seconds = new int[MOST_STEPS];
        private final double[] targets = new double[MOST_STEPS];
        private int count;
        private int next;

        boolean append(int second, double target) {
            if (count >= MOST_STEPS || (count > 0 && second <= seconds[count - 1])) {
                return false;
            }
            seconds[count] = second;
            targets[count] = target;
            count = count + 1;
            return true;
        }

        double heated(double from, int now) {
            // Time only goes forward, so a step that has gone by is never looked at again.
            while (next < count && seconds[next] <= now) {
                next = next + 1;
            }
            return next < count ? from + (targets[next] - from) / (seconds[next] - now) : from;
        }
    }

    /** The values of all rows at one temperature, reckoned anew only when it changes: most seconds pass at rest. */
    private static final class Rows {
        private static final int MARKS = 9;
        private static final int LAST_MARK = MARKS - 1;
        private static final int[] MARK_DEGREES = {0, 40, 50, 60, 65, 70, 75, 80, 90};

        private static final int RATES = 0;
        private static final int DECAYS = RATES + ENZYME_KINDS;
        private static final int GELLING = DECAYS + ENZYME_KINDS;
        private static final int ROWS = GELLING + 1;
        // The rates of the four enzymes in eighths; then their decays and the gelling in 4,096ths.
        private static final int[] TABLE = {
            0, 1, 2, 4, 6, 8, 7, 4, 0,
            0, 2, 4, 8, 7, 3, 1, 0, 0,
            0, 2, 6, 8, 4, 1, 0, 0, 0,
            0, 4, 8, 6, 3, 1, 0, 0, 0,
            0, 0, 0, 0, 1, 4, 16, 64, 255,
            0, 0, 0, 4, 16, 64, 128, 200, 255,
            0, 0, 1, 16, 64, 128, 200, 255, 255,
            0, 0, 4, 32, 64, 128, 200, 255, 255,
            0, 0, 2, 16, 64, 128, 160, 200, 255
        };

        private final double[] values = new double[ROWS];
        private double at;

        Rows() {
            reckonValues();
        }

        double rate(int enzymeKind) {
            return values[RATES + enzymeKind];
        }

        double decay(int enzymeKind) {
            return values[DECAYS + enzymeKind];
        }

        double gelling() {
            return values[GELLING];
        }

        void moveTo(double temperature) {
            if (temperature != at) {
                at = temperature;
                reckonValues();
            }
        }

        private void reckonValues() {
            int mark = markNotAbove();
            for (int row = 0; row < ROWS; row++) {
                values[row] = valueFrom(row, mark);
            }
        }

        private double valueFrom(int row, int mark) {
            if (mark < 0) {
                return atMark(row, 0);
            }
            return mark < LAST_MARK ? between(row, mark) : atMark(row, LAST_MARK);
        }

        private int markNotAbove() {
            int mark = -1;
            while (mark < LAST_MARK && MARK_DEGREES[mark + 1] <= at) {
                mark = mark + 1;
            }
            return mark;
        }

        private double between(int row, int mark) {
            double u = atMark(row, mark);
            double v = atMark(row, mark + 1);
            int p = MARK_DEGREES[mark];
            int n = MARK_DEGREES[mark + 1];
            return u + (v - u) * (at - p) / (n - p);
        }

        private static double atMark(int row, int mark) {
            return TABLE[row * MARKS + mark] / (row < DECAYS ? 8.0 : 4096.0);
        }
    }
}
