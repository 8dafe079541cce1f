/** Counts wrong answers of one test, and compares whole objects by all that they show. */
final class Check {
    /** Some calls on an object. */
    interface Calls {
        void on(MashEnzymes mash);
    }

    /** One call on an object, and its answer. */
    interface Answer {
        Object on(MashEnzymes mash);
    }

    private static final int SUGARS = 5;
    private static final int ENZYMES = 4;
    private static final int MOST_SECONDS = 120;

    static {
        Thread watch = new Thread(Check::stopAnEndlessCall);
        watch.setDaemon(true);
        watch.start();
    }

    private int wrong;

    // A call that never ends would otherwise hold up the whole run instead of failing its test.
    private static void stopAnEndlessCall() {
        try {
            Thread.sleep(MOST_SECONDS * 1000L);
        } catch (InterruptedException e) {
            return;
        }
        System.out.println("some call has not ended after " + MOST_SECONDS + " seconds");
        Runtime.getRuntime().halt(1);
    }

    void is(String call, double got, double due) {
        if (got != due) {
            report(call, String.valueOf(got), String.valueOf(due));
        }
    }

    void is(String call, boolean got, boolean due) {
        if (got != due) {
            report(call, String.valueOf(got), String.valueOf(due));
        }
    }

    void near(String call, double got, double due) {
        if (!(Math.abs(got - due) <= 1e-12 * Math.max(1, Math.abs(due)))) {
            report(call, String.valueOf(got), "about " + due);
        }
    }

    /** A call that no state makes right: it answers the same and changes nothing in each of them. */
    void refusedInEveryState(String call, Answer refused, Object due) {
        States.all().forEach((state, before) -> refused(call + " of " + state, before, refused, due));
    }

    /** A call that is refused after some others: it answers what is due, the second time too, and changes nothing. */
    void refused(String call, Calls before, Answer refused, Object due) {
        MashEnzymes mash = new MashEnzymes();
        before.on(mash);
        for (int time = 1; time <= 2; time++) {
            Object got = refused.on(mash);
            if (!got.equals(due)) {
                report(call + ", time " + time, String.valueOf(got), String.valueOf(due));
            }
        }
        changesNothing(call, before, refused::on);
    }

    /** The calls must leave no trace, neither now nor in what the object does later. */
    void changesNothing(String call, Calls before, Calls refused) {
        MashEnzymes touched = after(before);
        MashEnzymes plain = after(before);
        refused.on(touched);
        same(call + ", at once", touched, plain);
        probeAll(call, touched, plain);
        MashEnzymes touchedAgain = after(before);
        refused.on(touchedAgain);
        probeToldStarch(call, touchedAgain, after(before));
    }

    private static MashEnzymes after(Calls calls) {
        MashEnzymes mash = new MashEnzymes();
        calls.on(mash);
        return mash;
    }

    void same(String call, MashEnzymes got, MashEnzymes due) {
        is(call + ": degrees()", got.degrees(), due.degrees());
        is(call + ": water()", got.water(), due.water());
        is(call + ": starch()", got.starch(), due.starch());
        is(call + ": converted()", got.converted(), due.converted());
        for (int kind = 0; kind < SUGARS; kind++) {
            is(call + ": sugar(" + kind + ")", got.sugar(kind), due.sugar(kind));
        }
        for (int kind = 0; kind < ENZYMES; kind++) {
            is(call + ": enzymeLeft(" + kind + ")", got.enzymeLeft(kind), due.enzymeLeft(kind));
        }
    }

    void end() {
        if (wrong > 0) {
            System.out.println(wrong + " answers are not as due");
            System.exit(1);
        }
    }

    // Brings to light what no method shows: second, steps, decoctions, acidity, protein, whether it is empty.
    private void probeAll(String call, MashEnzymes got, MashEnzymes due) {
        is(call + ", then run(0)", got.run(0), due.run(0));
        is(call + ", then grain", got.grain(2, 0.5, 0), due.grain(2, 0.5, 0));
        is(call + ", then run(0) with grain", got.run(0), due.run(0));
        is(call + ", then liquor", got.liquor(3, 58, 5.25), due.liquor(3, 58, 5.25));
        same(call + ", then grain and liquor", got, due);
        int second = due.run(3);
        is(call + ", then run(3)", got.run(3), second);
        same(call + ", then run(3)", got, due);
        for (int later = 1; later <= 40; later++) {
            String step = ", then step " + later;
            is(call + step, got.step(second + later, 60), due.step(second + later, 60));
        }
        is(call + ", then run(20)", got.run(20), due.run(20));
        same(call + ", then run(20)", got, due);
        for (int decoction = 0; decoction < 9; decoction++) {
            is(call + ", then back " + decoction, got.back(decoction, 80), due.back(decoction, 80));
        }
        same(call + ", then all back", got, due);
        for (int decoction = 0; decoction < 9; decoction++) {
            is(call + ", then take", got.take(0.25), due.take(0.25));
        }
        is(call + ", then run(2000)", got.run(2000), due.run(2000));
        same(call + ", at last", got, due);
    }

    // Much alpha turns the starch second by second, so the told starch shows itself by when the mash is converted.
    private void probeToldStarch(String call, MashEnzymes got, MashEnzymes due) {
        for (MashEnzymes mash : new MashEnzymes[] {got, due}) {
            mash.grain(2, 0.5, 0);
            mash.liquor(3, 75, 5.5);
            mash.enzyme(0, 1000);
        }
        for (int i = 0; i < 150; i++) {
            is(call + ", then much alpha", got.run(2), due.run(2));
            is(call + ", then much alpha: converted()", got.converted(), due.converted());
        }
    }

    private void report(String call, String got, String due) {
        wrong++;
        System.out.println(call + " answered " + got + ", due is " + due);
    }
}
