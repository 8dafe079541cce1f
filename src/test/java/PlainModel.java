import java.util.ArrayList;
import java.util.List;

/** The document once more, word by word and without thought of speed: what the random runs are held against. */
final class PlainModel {
    private static final int[] DEGREES = {0, 40, 50, 60, 65, 70, 75, 80, 90};
    private static final String[] RATE = {
        "0 1 2 4 6 8 7 4 0", "0 2 4 8 7 3 1 0 0", "0 2 6 8 4 1 0 0 0", "0 4 8 6 3 1 0 0 0"};
    private static final String GELLING = "0 0 2 16 64 128 160 200 255";
    private static final String[] DECAY = {
        "0 0 0 0 1 4 16 64 255", "0 0 0 4 16 64 128 200 255",
        "0 0 1 16 64 128 200 255 255", "0 0 4 32 64 128 200 255 255"};

    private static final double[][] RATE_ROWS = {
        row(RATE[0], 8), row(RATE[1], 8), row(RATE[2], 8), row(RATE[3], 8)};
    private static final double[] GELLING_ROW = row(GELLING, 4096);
    private static final double[][] DECAY_ROWS = {
        row(DECAY[0], 4096), row(DECAY[1], 4096), row(DECAY[2], 4096), row(DECAY[3], 4096)};

    private static final class Mash {
        double w;
        double u;
        double g;
        double p;
        double[] s = new double[5];
        double[] e = new double[4];
        boolean back;
    }

    private final Mash m = new Mash();
    private final List<Mash> decoctions = new ArrayList<>();
    private final List<Integer> stepSeconds = new ArrayList<>();
    private final List<Double> stepDegrees = new ArrayList<>();
    private final List<Double> told = new ArrayList<>();
    private double t;
    private double a;
    private boolean liquorTold;
    private int now;

    private static double[] row(String text, int parts) {
        String[] words = text.split(" ");
        double[] values = new double[words.length];
        for (int i = 0; i < values.length; i++) {
            values[i] = Integer.parseInt(words[i]) / (double) parts;
        }
        return values;
    }

    private double at(double[] row) {
        if (t < 0) {
            return row[0];
        }
        if (t >= 90) {
            return row[8];
        }
        int i = 7;
        while (DEGREES[i] > t) {
            i--;
        }
        double u = row[i];
        double v = row[i + 1];
        return u + (v - u) * (t - DEGREES[i]) / (DEGREES[i + 1] - DEGREES[i]);
    }

    private boolean empty() {
        return told.isEmpty() || !liquorTold;
    }

    boolean grain(double kg, double starch, int kind) {
        if (!(kg > 0 && kg <= 1000) || !(starch >= 0 && starch <= 1) || kind < 0 || kind > 2) {
            return false;
        }
        m.u += kg * starch;
        told.add(kg * starch);
        m.p += kg * new double[] {0.125, 0.0625, 0.1875}[kind];
        double[][] each = {{1, 0.75, 0.25, 0.5}, {0, 0, 0, 0}, {0.5, 0.375, 0.125, 0.25}};
        for (int i = 0; i < 4; i++) {
            m.e[i] += kg * each[kind][i];
        }
        return true;
    }

    boolean liquor(double litres, double degrees, double acidity) {
        if (!(litres > 0 && litres <= 10000) || !(degrees >= 0 && degrees <= 100) || !(acidity >= 3 && acidity <= 8)) {
            return false;
        }
        t = (t * m.w + degrees * litres) / (m.w + litres);
        a = (a * m.w + acidity * litres) / (m.w + litres);
        m.w += litres;
        liquorTold = true;
        return true;
    }

    boolean enzyme(int kind, double amount) {
        if (kind < 0 || kind > 3 || !(amount > 0 && amount <= 1000)) {
            return false;
        }
        m.e[kind] += amount;
        return true;
    }

    boolean step(int second, double degrees) {
        for (int other : stepSeconds) {
            if (second <= other) {
                return false;
            }
        }
        if (second <= now || second > 1_000_000 || !(degrees >= 0 && degrees <= 100) || stepSeconds.size() == 32) {
            return false;
        }
        stepSeconds.add(second);
        stepDegrees.add(degrees);
        return true;
    }

    int run(int seconds) {
        if (empty() || seconds < 0 || seconds > 100_000 || (long) now + seconds > 1_000_000) {
            return -1;
        }
        for (int i = 0; i < seconds; i++) {
            second();
        }
        return now;
    }

    private void second() {
        for (int i = 0; i < stepSeconds.size(); i++) {
            if (stepSeconds.get(i) > now) {
                t = t + (stepDegrees.get(i) - t) / (stepSeconds.get(i) - now);
                break;
            }
        }
        double fit = Math.max(0, 1 - (a - 5.5) * (a - 5.5) * 0.25);
        double[] f = new double[4];
        for (int i = 0; i < 4; i++) {
            double x = m.e[i] * at(RATE_ROWS[i]) * fit;
            f[i] = x > 0 ? x / (x + m.w) * 0.0625 : 0;
        }
        double d = m.u * at(GELLING_ROW);
        m.u = m.u - d;
        m.g = m.g + d;
        double x = m.g * f[0];
        m.g = m.g - x;
        m.s[3] = m.s[3] + x * 0.75;
        m.s[2] = m.s[2] + x * 0.25;
        double y = Math.min(m.s[3] * f[1], m.w * 8);
        m.s[3] = m.s[3] - y;
        m.s[1] = m.s[1] + y * 1.0625;
        m.w = m.w - y * 0.0625;
        double z = Math.min(m.s[3] * f[2], m.w * 2);
        m.s[3] = m.s[3] - z;
        m.s[0] = m.s[0] + z * 1.125;
        m.w = m.w - z * 0.125;
        double p = m.p * f[3];
        m.p = m.p - p;
        m.s[4] = m.s[4] + p;
        for (int i = 0; i < 4; i++) {
            m.e[i] = m.e[i] - m.e[i] * at(DECAY_ROWS[i]);
        }
        now++;
    }

    double sugar(int kind) {
        return kind < 0 || kind > 4 ? -1 : m.s[kind];
    }

    double starch() {
        return m.u + m.g;
    }

    double enzymeLeft(int kind) {
        return kind < 0 || kind > 3 ? -1 : m.e[kind];
    }

    double degrees() {
        return t;
    }

    double water() {
        return m.w;
    }

    int take(double share) {
        if (!(share > 0 && share < 1) || empty()) {
            return -1;
        }
        if (decoctions.size() == 8) {
            return -2;
        }
        Mash out = new Mash();
        out.w = m.w * share;
        out.u = m.u * share;
        out.g = m.g * share;
        out.p = m.p * share;
        m.w = m.w - m.w * share;
        m.u = m.u - m.u * share;
        m.g = m.g - m.g * share;
        m.p = m.p - m.p * share;
        for (int i = 0; i < 5; i++) {
            out.s[i] = m.s[i] * share;
            m.s[i] = m.s[i] - m.s[i] * share;
        }
        for (int i = 0; i < 4; i++) {
            out.e[i] = m.e[i] * share;
            m.e[i] = m.e[i] - m.e[i] * share;
        }
        decoctions.add(out);
        return decoctions.size() - 1;
    }

    boolean back(int decoction, double degrees) {
        if (decoction < 0 || decoction >= decoctions.size() || !(degrees >= 0 && degrees <= 100)) {
            return false;
        }
        Mash in = decoctions.get(decoction);
        if (in.back) {
            return false;
        }
        if (m.w + in.w > 0) {
            t = (t * m.w + degrees * in.w) / (m.w + in.w);
        }
        m.w = m.w + in.w;
        m.u = m.u + in.u;
        m.g = m.g + in.g;
        m.p = m.p + in.p;
        for (int i = 0; i < 5; i++) {
            m.s[i] = m.s[i] + in.s[i];
        }
        for (int i = 0; i < 4; i++) {
            m.e[i] = m.e[i] + in.e[i];
        }
        in.back = true;
        return true;
    }

    boolean converted() {
        double sum = 0;
        for (double starch : told) {
            sum = sum + starch;
        }
        return !empty() && 128 * (m.u + m.g) <= sum;
    }
}
