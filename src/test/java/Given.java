import java.util.NoSuchElementException;

/** Foundries in the states that the boundary tests begin with, and short ways to use them. */
final class Given {
    static final Class<IndexOutOfBoundsException> INDEX = IndexOutOfBoundsException.class;
    static final Class<IllegalArgumentException> ARGUMENT = IllegalArgumentException.class;
    static final Class<IllegalStateException> STATE = IllegalStateException.class;
    static final Class<NoSuchElementException> ELEMENT = NoSuchElementException.class;
    static final Class<ArithmeticException> ARITHMETIC = ArithmeticException.class;
    static final Class<UnsupportedOperationException> UNSUPPORTED = UnsupportedOperationException.class;

    /** What the bows of workshop() squeak, one after the other in mould 0, until it is used up. */
    static final int[] SQUEAKS = {12, 25, 38, 51, 64, 77, 90, 3, 16, 29, 42, 55, 68, 81, 94, 7, 20, 33, 46, 59};

    private Given() {
    }

    static void buyAll(BowFoundry x, int metal, int grams) {
        for (int left = grams; left > 0; left -= 99) {
            x.buy(metal, Math.min(left, 99));
        }
    }

    /** With the same stock of each metal, one alloy and one mould. */
    static BowFoundry foundry(int copper, int tin, int silver, int length, int grams) {
        BowFoundry x = new BowFoundry();
        x.addAlloy(copper, tin, silver);
        x.addMould(length);
        for (int metal = 0; metal < 3; metal++) {
            buyAll(x, metal, grams);
        }
        return x;
    }

    /** Alloy 0 is one part of copper, mould 0 is 1 long, and there are 99 grams of each metal. */
    static BowFoundry workshop() {
        return foundry(1, 0, 0, 1, 99);
    }

    /** A workshop with one batch of as many bows, number 0. */
    static BowFoundry batchOf(int bows) {
        BowFoundry x = workshop();
        x.cast(0, 0, bows);
        return x;
    }

    /** A workshop with the batches 0 to 7, of one bow each. */
    static BowFoundry eightBatches() {
        BowFoundry x = workshop();
        for (int i = 0; i < 8; i++) {
            x.cast(0, 0, 1);
        }
        return x;
    }

    /** A workshop whose mould 0 has 20 uses, by the batches 0 to 2. */
    static BowFoundry usedUp() {
        BowFoundry x = batchOf(9);
        x.cast(0, 0, 9);
        x.cast(0, 0, 2);
        return x;
    }

    /**
     * Batches of two bows: 0 is open, 1 is sold, 2 is melted, 3 is failed, and 4 is open; so the bows 0, 1, 6, 7, 8
     * and 9 exist.
     */
    static BowFoundry gaps() {
        BowFoundry x = workshop();
        for (int i = 0; i < 5; i++) {
            x.cast(0, 0, 2);
        }
        sell(x, 1);
        fail(x, 2);
        x.melt(2);
        fail(x, 3);
        x.setTolerance(50);
        return x;
    }

    /** Fails a batch, and leaves the tolerance at 0; no bow of a workshop squeaks as low. */
    static void fail(BowFoundry x, int batch) {
        x.setTolerance(0);
        x.inspect(batch);
    }

    /** Sells a batch, and leaves the tolerance at 99. */
    static void sell(BowFoundry x, int batch) {
        x.setTolerance(99);
        x.inspect(batch);
    }

    static String batchText(BowFoundry x, int batch) {
        return Check.output(x, x.renderBatch(batch));
    }

    static String storeText(BowFoundry x) {
        return Check.output(x, x.renderStore());
    }

    static int run(BowFoundry x, String script) {
        Check.type(x, script);
        return x.runScript();
    }

    /** The outcome of a script, as Check.outcome tells it. */
    static String outcomeOf(BowFoundry x, String script) {
        Check.type(x, script);
        return Check.outcome(() -> x.runScript());
    }
}
