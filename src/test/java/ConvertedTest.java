/** Promise 14: converted. */
final class ConvertedTest {
    public static void main(String[] args) {
        Check check = new Check();
        emptyIsNotConverted(check);
        theLimitIsIncluded(check);
        gelledStarchCounts(check);
        toldStarchIsOfAllGrain(check);
        timeConverts(check);
        check.end();
    }

    private static void emptyIsNotConverted(Check check) {
        MashEnzymes mash = new MashEnzymes();
        check.is("converted() of nothing", mash.converted(), false);
        mash.grain(8, 0, 1);
        check.is("converted() of grain alone", mash.converted(), false);
        mash.liquor(8, 50, 5.5);
        check.is("converted() without any starch", mash.converted(), true);
        MashEnzymes water = new MashEnzymes();
        water.liquor(8, 50, 5.5);
        check.is("converted() of liquor alone", water.converted(), false);
    }

    // Taking 127 of 128 parts leaves just the limit; the told starch stays what it was.
    private static void theLimitIsIncluded(Check check) {
        check.is("converted() at the limit", parted(127 / 128.0).converted(), true);
        check.is("converted() above it", parted(Math.nextDown(127 / 128.0)).converted(), false);
        check.is("converted() below it", parted(Math.nextUp(127 / 128.0)).converted(), true);
    }

    private static MashEnzymes parted(double share) {
        MashEnzymes mash = new MashEnzymes();
        mash.grain(8, 0.5, 1);
        mash.liquor(8, 50, 5.5);
        mash.take(share);
        return mash;
    }

    private static void gelledStarchCounts(Check check) {
        MashEnzymes mash = new MashEnzymes();
        mash.grain(8, 0.5, 1);
        mash.liquor(8, 90, 5.5);
        mash.run(5000);
        check.is("converted() with all gelled, none split", mash.converted(), false);
    }

    private static void toldStarchIsOfAllGrain(Check check) {
        MashEnzymes mash = parted(127 / 128.0);
        mash.grain(1, 0.0625, 1);
        check.is("converted() with new starch", mash.converted(), false);
        mash.take(0.875);
        check.is("converted() with little of it left", mash.converted(), true);
        mash.back(0, 50);
        check.is("converted() with the decoction back", mash.converted(), false);
        MashEnzymes other = new MashEnzymes();
        other.grain(8, 0.5, 1);
        other.grain(4, 1, 0);
        other.liquor(8, 50, 5.5);
        other.take(127 / 128.0);
        check.is("converted() by the sum of both", other.converted(), true);
    }

    private static void timeConverts(Check check) {
        MashEnzymes mash = new MashEnzymes();
        mash.grain(10, 0.625, 0);
        mash.liquor(30, 66, 5.5);
        check.is("converted() at first", mash.converted(), false);
        boolean before = false;
        for (int minute = 1; minute <= 120; minute++) {
            mash.run(60);
            boolean due = 128 * mash.starch() <= 6.25;
            check.is("converted() at minute " + minute, mash.converted(), due);
            check.is("conversion lasts at minute " + minute, before && !mash.converted(), false);
            before = mash.converted();
        }
        check.is("converted() at last", before, true);
    }
}
