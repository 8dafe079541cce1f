/** Promise 14: converted. */
final class ConvertedTest {
    public static void main(String[] args) {
        Check check = new Check();
        emptyIsNotConverted(check);
        theLimitIsIncluded(check);
        gelledStarchCounts(check);
        toldStarchIsOfAllGrain(check);
        timeConverts(check);
        toldInItsOrder(check);
        theLimitIsOfBothStarches(check);
        theLeastStarch(check);
        theLeastStarchesAddUp(check);
        convertedNoMore(check);
        onlyGrainTellsStarch(check);
        check.end();
    }

    private static void emptyIsNotConverted(Check check) {
        MashEnzymes mash = new MashEnzymes();
        check.is("converted() of nothing", mash.converted(), false);
        mash.grain(8, 0, 1);
        check.is("converted() of grain alone", mash.converted(), false);
        mash.liquor(8, 50, 5.5);
        check.is("converted() without any starch", mash.converted(), true);
        MashEnzymes water = new MashEnzymes();
        water.liquor(8, 50, 5.5);
        check.is("converted() of liquor alone", water.converted(), false);
    }

    // Taking 127 of 128 parts leaves just the limit; the told starch stays what it was.
    private static void theLimitIsIncluded(Check check) {
        check.is("converted() at the limit", parted(127 / 128.0).converted(), true);
        check.is("converted() above it", parted(Math.nextDown(127 / 128.0)).converted(), false);
        check.is("converted() below it", parted(Math.nextUp(127 / 128.0)).converted(), true);
    }

    private static MashEnzymes parted(double share) {
        MashEnzymes mash = new MashEnzymes();
        mash.grain(8, 0.5, 1);
        mash.liquor(8, 50, 5.5);
        mash.take(share);
        return mash;
    }

    private static void gelledStarchCounts(Check check) {
        MashEnzymes mash = new MashEnzymes();
        mash.grain(8, 0.5, 1);
        mash.liquor(8, 90, 5.5);
        mash.run(5000);
        check.is("converted() with all gelled, none split", mash.converted(), false);
    }

    private static void toldStarchIsOfAllGrain(Check check) {
        MashEnzymes mash = parted(127 / 128.0);
        mash.grain(1, 0.0625, 1);
        check.is("converted() with new starch", mash.converted(), false);
        mash.take(0.875);
        check.is("converted() with little of it left", mash.converted(), true);
        mash.back(0, 50);
        check.is("converted() with the decoction back", mash.converted(), false);
        MashEnzymes other = new MashEnzymes();
        other.grain(8, 0.5, 1);
        other.grain(4, 1, 0);
        other.liquor(8, 50, 5.5);
        other.take(127 / 128.0);
        check.is("converted() by the sum of both", other.converted(), true);
    }

    private static void timeConverts(Check check) {
        MashEnzymes mash = new MashEnzymes();
        mash.grain(10, 0.625, 0);
        mash.liquor(30, 66, 5.5);
        check.is("converted() at first", mash.converted(), false);
        boolean before = false;
        for (int minute = 1; minute <= 120; minute++) {
            mash.run(60);
            boolean converted = mash.converted();
            check.is("converted() at minute " + minute, converted, 128 * mash.starch() <= 6.25);
            check.is("conversion lasts at minute " + minute, before && !converted, false);
            before = converted;
        }
        check.is("converted() at last", before, true);
    }

    // 1000 kg and then 256 times half of their last binary place: in this order none of these moves the sum, in the
    // other order they come to 256 half places, and what is left of the starch would be few enough.
    private static void toldInItsOrder(Check check) {
        double halfPlace = Math.ulp(1000.0) / 2;
        MashEnzymes mash = new MashEnzymes();
        mash.grain(1000, 1, 1);
        for (int i = 0; i < 256; i++) {
            mash.grain(halfPlace, 1, 1);
        }
        mash.liquor(8, 50, 5.5);
        check.is("starch() in its order", mash.starch(), 1000);
        mash.take(Math.nextDown(127 / 128.0));
        double left = mash.starch();
        check.is("what is left lies between", 1000 < 128 * left && 128 * left <= 1000 + 256 * halfPlace, true);
        check.is("converted() by the sum in its order", mash.converted(), false);
    }

    // One of these two is the limit itself, by a sum of raw and gelled starch.
    private static void theLimitIsOfBothStarches(Check check) {
        MashEnzymes mash = halfGelled();
        mash.take(127 / 128.0);
        check.is("converted() of raw and gelled", mash.converted(), 128 * mash.starch() <= 4);
        MashEnzymes more = halfGelled();
        more.take(0.9921);
        check.is("converted() of raw and gelled, above", more.converted(), false);
        MashEnzymes less = halfGelled();
        less.take(0.9922);
        check.is("converted() of raw and gelled, below", less.converted(), true);
    }

    private static MashEnzymes halfGelled() {
        MashEnzymes mash = new MashEnzymes();
        mash.grain(8, 0.5, 1);
        mash.liquor(8, 70, 5.5);
        mash.run(22);
        return mash;
    }

    // Grain of the least weight tells starch; 128 times it is more than it.
    private static void theLeastStarch(Check check) {
        MashEnzymes mash = new MashEnzymes();
        mash.grain(Double.MIN_VALUE, 1, 1);
        mash.liquor(8, 50, 5.5);
        check.is("converted() of the least starch", mash.converted(), false);
        mash.take(0.75);
        check.is("starch() taken out", mash.starch(), 0);
        check.is("converted() without it", mash.converted(), true);
        mash.back(0, 50);
        check.is("converted() with it back", mash.converted(), false);
    }

    // With all but one of them taken out, 128 of the least starches are just enough.
    private static void theLeastStarchesAddUp(Check check) {
        for (int times : new int[] {64, 127, 128, 129}) {
            MashEnzymes mash = new MashEnzymes();
            for (int i = 0; i < times; i++) {
                mash.grain(Double.MIN_VALUE, 1, 1);
            }
            mash.liquor(8, 50, 5.5);
            mash.take((times - 1.0) / times);
            check.is("starch() of " + times + " least ones", mash.starch(), Double.MIN_VALUE);
            check.is("converted() of " + times + " least ones", mash.converted(), times >= 128);
        }
    }

    // A mash that was converted is so no more when starch is told: only the starch of now counts.
    private static void convertedNoMore(Check check) {
        MashEnzymes mash = new MashEnzymes();
        mash.grain(8, 0, 1);
        mash.liquor(8, 50, 5.5);
        check.is("converted() without starch", mash.converted(), true);
        mash.grain(8, 0.5, 1);
        check.is("converted() with starch", mash.converted(), false);
    }

    // Just above the limit, any other call that told starch would make the mash converted.
    private static void onlyGrainTellsStarch(Check check) {
        MashEnzymes mash = parted(Math.nextDown(127 / 128.0));
        mash.enzyme(0, 1000);
        mash.liquor(10_000, 30, 5.5);
        mash.step(9, 30);
        check.is("converted() with enzyme, liquor and step", mash.converted(), false);
        mash.grain(1000, 0, 0);
        check.is("converted() with grain without starch", mash.converted(), false);
        mash.back(0, 30);
        mash.take(Math.nextDown(127 / 128.0));
        check.is("converted() with a decoction back and another out", mash.converted(), false);
    }
}
