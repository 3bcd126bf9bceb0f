import java.util.NoSuchElementException;

/** At least one test for each promise of the document, in its order. */
public final class PromiseTest {
    private static final Class<IndexOutOfBoundsException> INDEX = IndexOutOfBoundsException.class;
    private static final Class<IllegalArgumentException> ARGUMENT = IllegalArgumentException.class;
    private static final Class<IllegalStateException> STATE = IllegalStateException.class;
    private static final Class<NoSuchElementException> ELEMENT = NoSuchElementException.class;
    private static final Class<ArithmeticException> ARITHMETIC = ArithmeticException.class;
    private static final Class<UnsupportedOperationException> UNSUPPORTED = UnsupportedOperationException.class;

    public static void main(String[] args) {
        newObject();
        addAlloy();
        addMould();
        buy();
        cast();
        squeaksOfCast();
        castTakesMetal();
        inspect();
        inspectSamples();
        melt();
        meltAboveStock();
        renewMould();
        setTolerance();
        setStep();
        alloysAndMoulds();
        store();
        batches();
        bows();
        goodBowsAndSample();
        neededTolerance();
        nextSqueak();
        possibleBows();
        metalAccounts();
        batchBySqueak();
        totals();
        meanAndShare();
        isConsistent();
        renderBatch();
        renderStore();
        outputAt();
        type();
        runScript();
        scriptForms();
        scriptErrors();
        scriptFailures();
        errorPositionAndFailedCommand();
        undo();
        undoEachChange();
        undoAndWhatStays();
        saveAndRestore();
        Check.end("PromiseTest");
    }

    /**
     * Alloy 0 is (3, 2, 1) and alloy 1 is (1, 0, 0); mould 0 has the length 10 and mould 1 has 25; the stocks
     * are 297 grams. Alloy 1 gives 57,70,83,96,9,22,35,48,61 in mould 0 and 32,45,58,71,84,97,10,23,36 in mould 1.
     */
    private static BowFoundry ready() {
        BowFoundry x = new BowFoundry();
        x.addAlloy(3, 2, 1);
        x.addAlloy(1, 0, 0);
        x.addMould(10);
        x.addMould(25);
        for (int i = 0; i < 9; i++) {
            x.buy(i % 3, 99);
        }
        return x;
    }

    private static String batchText(BowFoundry x, int batch) {
        return Check.output(x, x.renderBatch(batch));
    }

    private static String storeText(BowFoundry x) {
        return Check.output(x, x.renderStore());
    }

    private static int run(BowFoundry x, String script) {
        Check.type(x, script);
        return x.runScript();
    }

    private static void newObject() {
        BowFoundry x = new BowFoundry();
        Check.same("1 alloys", x.alloyCount(), 0);
        Check.same("1 moulds", x.mouldCount(), 0);
        Check.same("1 batches", x.batchCount(), 0);
        Check.same("1 tolerance", x.tolerance(), 50);
        Check.same("1 step", x.step(), 2);
        Check.same("1 totals", x.castTotal() + x.soldTotal() + x.meltedTotal(), 0);
        for (int metal = 0; metal < 3; metal++) {
            Check.same("1 stock", x.stock(metal), 0);
            Check.same("1 lost", x.lostGrams(metal), 0);
        }
        Check.same("1 consistent", x.isConsistent(), true);
        Check.refuses("1 output", INDEX, () -> x.outputAt(0));
        Check.refuses("1 undo", STATE, () -> x.undo());
        Check.refuses("1 restore", STATE, () -> x.restore());
        Check.same("1 store", storeText(x), "c0t0s0");
    }

    private static void addAlloy() {
        BowFoundry x = new BowFoundry();
        Check.refuses("2 no part", ARGUMENT, () -> x.addAlloy(0, 0, 0));
        Check.refuses("2 copper 10", ARGUMENT, () -> x.addAlloy(10, 1, 1));
        Check.refuses("2 tin 10", ARGUMENT, () -> x.addAlloy(1, 10, 1));
        Check.refuses("2 silver 10", ARGUMENT, () -> x.addAlloy(1, 1, 10));
        Check.refuses("2 copper -1", ARGUMENT, () -> x.addAlloy(-1, 1, 1));
        Check.refuses("2 tin -1", ARGUMENT, () -> x.addAlloy(1, -1, 1));
        Check.refuses("2 silver -1", ARGUMENT, () -> x.addAlloy(1, 1, -1));
        Check.refuses("2 lowest", ARGUMENT, () -> x.addAlloy(Integer.MIN_VALUE, 1, 1));
        Check.refuses("2 highest", ARGUMENT, () -> x.addAlloy(1, Integer.MAX_VALUE, 1));
        Check.same("2 nothing added", x.alloyCount(), 0);
        Check.same("2 first", x.addAlloy(1, 0, 0), 0);
        Check.same("2 second", x.addAlloy(0, 1, 0), 1);
        Check.same("2 third", x.addAlloy(0, 0, 1), 2);
        Check.same("2 most parts", x.addAlloy(9, 9, 9), 3);
        Check.same("2 fifth", x.addAlloy(1, 2, 1), 4);
        Check.same("2 same again", x.addAlloy(1, 2, 1), 5);
        Check.refuses("2 seventh", STATE, () -> x.addAlloy(1, 1, 1));
        Check.refuses("2 argument before state", ARGUMENT, () -> x.addAlloy(0, 0, 0));
        Check.same("2 six", x.alloyCount(), 6);
    }

    private static void addMould() {
        BowFoundry x = new BowFoundry();
        Check.refuses("3 length 0", ARGUMENT, () -> x.addMould(0));
        Check.refuses("3 length 51", ARGUMENT, () -> x.addMould(51));
        Check.refuses("3 length -1", ARGUMENT, () -> x.addMould(-1));
        Check.same("3 first", x.addMould(1), 0);
        Check.same("3 second", x.addMould(50), 1);
        Check.same("3 third", x.addMould(25), 2);
        Check.same("3 fourth", x.addMould(25), 3);
        Check.same("3 unused", x.uses(3), 0);
        Check.refuses("3 fifth", STATE, () -> x.addMould(25));
        Check.refuses("3 argument before state", ARGUMENT, () -> x.addMould(51));
        Check.same("3 four", x.mouldCount(), 4);
    }

    private static void buy() {
        BowFoundry x = new BowFoundry();
        Check.refuses("4 metal -1", INDEX, () -> x.buy(-1, 1));
        Check.refuses("4 metal 3", INDEX, () -> x.buy(3, 1));
        Check.refuses("4 index before argument", INDEX, () -> x.buy(3, 0));
        Check.refuses("4 no gram", ARGUMENT, () -> x.buy(0, 0));
        Check.refuses("4 100 grams", ARGUMENT, () -> x.buy(0, 100));
        Check.refuses("4 highest", ARGUMENT, () -> x.buy(0, Integer.MAX_VALUE));
        Check.same("4 first", x.buy(1, 1), 1);
        for (int i = 1; i <= 10; i++) {
            Check.same("4 silver", x.buy(2, 99), 99 * i);
        }
        Check.refuses("4 1000", STATE, () -> x.buy(2, 10));
        Check.same("4 999", x.buy(2, 9), 999);
        Check.refuses("4 full", STATE, () -> x.buy(2, 1));
        Check.refuses("4 argument before state", ARGUMENT, () -> x.buy(2, 100));
        Check.same("4 store", storeText(x), "c0t1s999");
    }

    private static void cast() {
        BowFoundry x = ready();
        Check.refuses("5 alloy -1", INDEX, () -> x.cast(-1, 0, 1));
        Check.refuses("5 alloy 2", INDEX, () -> x.cast(2, 0, 1));
        Check.refuses("5 mould -1", INDEX, () -> x.cast(0, -1, 1));
        Check.refuses("5 mould 2", INDEX, () -> x.cast(0, 2, 1));
        Check.refuses("5 index before argument", INDEX, () -> x.cast(0, 2, 0));
        Check.refuses("5 no bow", ARGUMENT, () -> x.cast(0, 0, 0));
        Check.refuses("5 10 bows", ARGUMENT, () -> x.cast(0, 0, 10));
        Check.refuses("5 -1 bows", ARGUMENT, () -> x.cast(0, 0, -1));
        Check.same("5 nothing cast", x.castTotal() + x.uses(0) + x.batchCount(), 0);
        Check.same("5 batch 0", x.cast(1, 0, 9), 0);
        Check.same("5 batch 1", x.cast(1, 0, 9), 1);
        Check.refuses("5 21 uses", STATE, () -> x.cast(1, 0, 3));
        Check.refuses("5 argument before state", ARGUMENT, () -> x.cast(1, 0, 10));
        Check.same("5 20 uses", x.cast(1, 0, 2), 2);
        Check.refuses("5 used up", STATE, () -> x.cast(1, 0, 1));
        Check.same("5 uses", x.uses(0), 20);
        for (int i = 3; i < 8; i++) {
            Check.same("5 batch", x.cast(0, 1, 1), i);
        }
        Check.refuses("5 ninth batch", STATE, () -> x.cast(0, 1, 1));
        Check.refuses("5 argument before ninth", ARGUMENT, () -> x.cast(0, 1, 0));
        x.setTolerance(99);
        x.inspect(5);
        Check.same("5 numbers go on", x.cast(0, 1, 1), 8);
        Check.same("5 bows go on", x.firstBow(8), 25);
    }

    private static void squeaksOfCast() {
        BowFoundry x = ready();
        x.cast(0, 0, 4);
        Check.same("5 squeaks", batchText(x, 0), "0?:96,9,22,35");
        x.cast(1, 0, 2);
        Check.same("5 uses go on", batchText(x, 1), "1?:9,22");
        x.addAlloy(0, 0, 9);
        x.addMould(50);
        x.cast(2, 2, 1);
        Check.same("5 silver and length", batchText(x, 2), "2?:77");
        x.addAlloy(0, 9, 0);
        x.addMould(1);
        x.cast(3, 3, 1);
        Check.same("5 tin", batchText(x, 3), "3?:4");
        x.cast(1, 1, 9);
        Check.same("5 nine", batchText(x, 4), "4?:32,45,58,71,84,97,10,23,36");
    }

    private static void castTakesMetal() {
        BowFoundry x = new BowFoundry();
        x.addAlloy(3, 2, 1);
        x.addMould(10);
        x.addMould(1);
        x.buy(0, 11);
        x.buy(1, 8);
        x.buy(2, 4);
        Check.refuses("5 copper short", UNSUPPORTED, () -> x.cast(0, 0, 4));
        x.buy(0, 1);
        Check.same("5 just enough", x.cast(0, 0, 4), 0);
        Check.same("5 all used", storeText(x), "c0t0s0 10x4 1x0");
        x.buy(0, 12);
        x.buy(1, 7);
        x.buy(2, 4);
        Check.refuses("5 tin short", UNSUPPORTED, () -> x.cast(0, 0, 4));
        x.buy(1, 1);
        x.renewMould(0);
        Check.same("5 again", x.cast(0, 0, 4), 1);
        x.buy(0, 12);
        x.buy(1, 8);
        x.buy(2, 3);
        Check.refuses("5 silver short", UNSUPPORTED, () -> x.cast(0, 0, 4));
        Check.same("5 stays", storeText(x), "c12t8s3 10x4 1x0");
        Check.same("5 numbers stay", x.cast(0, 1, 3), 2);
        Check.same("5 bows stay", x.firstBow(2), 8);
        x.addAlloy(0, 0, 9);
        x.addAlloy(1, 0, 0);
        x.buy(0, 99);
        x.cast(2, 0, 9);
        Check.refuses("5 state before metal", STATE, () -> x.cast(1, 0, 8));
        Check.refuses("5 argument before metal", ARGUMENT, () -> x.cast(1, 0, 10));
        Check.refuses("5 index before metal", INDEX, () -> x.cast(1, 2, 1));
    }

    private static void inspect() {
        BowFoundry x = ready();
        Check.refuses("6 none", ELEMENT, () -> x.inspect(0));
        x.cast(1, 0, 4);
        x.cast(1, 1, 4);
        Check.refuses("6 -1", ELEMENT, () -> x.inspect(-1));
        Check.refuses("6 2", ELEMENT, () -> x.inspect(2));
        Check.same("6 fails", x.inspect(0), false);
        Check.same("6 failed", x.isFailed(0), true);
        Check.refuses("6 twice", STATE, () -> x.inspect(0));
        Check.same("6 still there", x.batchCount(), 2);
        Check.same("6 half is not enough", x.inspect(1), false);
        x.setTolerance(58);
        x.cast(1, 1, 1);
        Check.same("6 not sold", x.soldTotal(), 0);
        x.renewMould(1);
        x.cast(1, 1, 4);
        Check.same("6 passes", x.inspect(3), true);
        Check.same("6 sold", x.soldTotal(), 4);
        Check.refuses("6 gone", ELEMENT, () -> x.inspect(3));
        Check.refuses("6 bows gone", ELEMENT, () -> x.squeak(9));
        Check.same("6 others stay", x.squeak(8), 84);
        Check.same("6 three stay", x.batchCount(), 3);
        Check.same("6 store as before", x.stock(0), 284);
    }

    /** Of 32,45,58,71,84 the step takes 32,58,84 or 32,71 or 32,84 or 32. */
    private static void inspectSamples() {
        int[] least = {0, 58, 58, 71, 84, 32};
        for (int step = 1; step <= 5; step++) {
            BowFoundry x = ready();
            x.cast(1, 1, 5);
            x.setStep(step);
            x.setTolerance(least[step] - 1);
            Check.same("6 step fails", x.inspect(0), false);
            x.renewMould(1);
            x.cast(1, 1, 5);
            x.setTolerance(least[step]);
            Check.same("6 step passes", x.inspect(1), true);
        }
    }

    private static void melt() {
        BowFoundry x = ready();
        Check.refuses("7 none", ELEMENT, () -> x.melt(0));
        x.cast(0, 0, 4);
        x.cast(1, 1, 2);
        Check.refuses("7 open", STATE, () -> x.melt(0));
        Check.refuses("7 -1", ELEMENT, () -> x.melt(-1));
        Check.refuses("7 2", ELEMENT, () -> x.melt(2));
        x.setTolerance(0);
        x.inspect(0);
        x.inspect(1);
        Check.same("7 before", storeText(x), "c283t289s293 10x4 25x2");
        Check.same("7 returned", x.melt(0), 12);
        Check.same("7 after", storeText(x), "c291t293s293 10x4 25x2");
        Check.same("7 lost copper", x.lostGrams(0), 4);
        Check.same("7 lost tin", x.lostGrams(1), 4);
        Check.same("7 lost silver", x.lostGrams(2), 4);
        Check.refuses("7 gone", ELEMENT, () -> x.melt(0));
        Check.refuses("7 bows gone", ELEMENT, () -> x.squeak(0));
        Check.same("7 the other stays", x.squeak(4), 32);
        Check.same("7 nothing below 0", x.melt(1), 0);
        Check.same("7 one part is lost", x.lostGrams(0), 6);
        Check.same("7 no tin in it", x.lostGrams(1), 4);
        Check.same("7 melted", x.meltedTotal(), 6);
        Check.same("7 number not used again", x.cast(0, 0, 1), 2);
    }

    private static void meltAboveStock() {
        BowFoundry x = new BowFoundry();
        x.addAlloy(9, 0, 0);
        x.addMould(10);
        x.buy(0, 81);
        x.cast(0, 0, 9);
        x.setTolerance(0);
        x.inspect(0);
        for (int i = 0; i < 10; i++) {
            x.buy(0, 99);
        }
        x.buy(0, 9);
        Check.same("7 returned above", x.melt(0), 72);
        Check.same("7 above 999", x.stock(0), 1071);
        Check.refuses("4 above 999", STATE, () -> x.buy(0, 1));
        Check.same("7 consistent above", x.isConsistent(), true);
    }

    private static void renewMould() {
        BowFoundry x = ready();
        x.cast(1, 0, 5);
        x.cast(1, 1, 3);
        Check.refuses("8 -1", INDEX, () -> x.renewMould(-1));
        Check.refuses("8 2", INDEX, () -> x.renewMould(2));
        Check.same("8 before", x.renewMould(0), 5);
        Check.same("8 now", x.uses(0), 0);
        Check.same("8 the other", x.uses(1), 3);
        Check.same("8 again", x.renewMould(0), 0);
        Check.same("8 length stays", x.mouldLength(0), 10);
        Check.same("8 bows stay", batchText(x, 0), "0?:57,70,83,96,9");
    }

    private static void setTolerance() {
        BowFoundry x = new BowFoundry();
        Check.refuses("9 -1", ARGUMENT, () -> x.setTolerance(-1));
        Check.refuses("9 100", ARGUMENT, () -> x.setTolerance(100));
        Check.same("9 first", x.setTolerance(0), 50);
        Check.same("9 lowest", x.tolerance(), 0);
        Check.same("9 second", x.setTolerance(99), 0);
        Check.same("9 highest", x.tolerance(), 99);
        Check.same("9 same", x.setTolerance(99), 99);
    }

    private static void setStep() {
        BowFoundry x = new BowFoundry();
        Check.refuses("10 0", ARGUMENT, () -> x.setStep(0));
        Check.refuses("10 6", ARGUMENT, () -> x.setStep(6));
        Check.refuses("10 -1", ARGUMENT, () -> x.setStep(-1));
        Check.same("10 first", x.setStep(5), 2);
        Check.same("10 highest", x.step(), 5);
        Check.same("10 second", x.setStep(1), 5);
        Check.same("10 lowest", x.step(), 1);
    }

    private static void alloysAndMoulds() {
        BowFoundry x = ready();
        Check.same("11 two", x.alloyCount(), 2);
        Check.same("12 copper", x.parts(0, 0), 3);
        Check.same("12 tin", x.parts(0, 1), 2);
        Check.same("12 silver", x.parts(0, 2), 1);
        Check.same("12 none", x.parts(1, 2), 0);
        Check.refuses("12 alloy -1", INDEX, () -> x.parts(-1, 0));
        Check.refuses("12 alloy 2", INDEX, () -> x.parts(2, 0));
        Check.refuses("12 metal -1", INDEX, () -> x.parts(0, -1));
        Check.refuses("12 metal 3", INDEX, () -> x.parts(0, 3));
        Check.same("13 two", x.mouldCount(), 2);
        Check.same("14 first", x.mouldLength(0), 10);
        Check.same("14 second", x.mouldLength(1), 25);
        Check.refuses("14 -1", INDEX, () -> x.mouldLength(-1));
        Check.refuses("14 2", INDEX, () -> x.mouldLength(2));
        x.cast(0, 1, 7);
        Check.same("15 first", x.uses(0), 0);
        Check.same("15 second", x.uses(1), 7);
        Check.refuses("15 -1", INDEX, () -> x.uses(-1));
        Check.refuses("15 2", INDEX, () -> x.uses(2));
    }

    private static void store() {
        BowFoundry x = ready();
        x.cast(0, 0, 5);
        Check.same("16 copper", x.stock(0), 282);
        Check.same("16 tin", x.stock(1), 287);
        Check.same("16 silver", x.stock(2), 292);
        Check.refuses("16 -1", INDEX, () -> x.stock(-1));
        Check.refuses("16 3", INDEX, () -> x.stock(3));
        x.setTolerance(7);
        Check.same("17 set", x.tolerance(), 7);
        x.setStep(3);
        Check.same("18 set", x.step(), 3);
    }

    private static void batches() {
        BowFoundry x = ready();
        for (int i = 0; i < 8; i++) {
            x.cast(1, i % 2, i % 4 + 1);
        }
        Check.same("19 eight", x.batchCount(), 8);
        x.setTolerance(99);
        x.inspect(0);
        x.inspect(3);
        x.inspect(7);
        x.setTolerance(0);
        x.inspect(4);
        Check.same("19 five", x.batchCount(), 5);
        int[] numbers = {1, 2, 4, 5, 6};
        for (int i = 0; i < 5; i++) {
            Check.same("20 at " + i, x.batchAt(i), numbers[i]);
            Check.same("21 failed " + i, x.isFailed(numbers[i]), i == 2);
            Check.same("22 size " + i, x.batchSize(numbers[i]), numbers[i] % 4 + 1);
        }
        Check.refuses("20 at -1", ELEMENT, () -> x.batchAt(-1));
        Check.refuses("20 at 5", ELEMENT, () -> x.batchAt(5));
        Check.refuses("20 at 8", ELEMENT, () -> x.batchAt(8));
        Check.same("23 first of 1", x.firstBow(1), 1);
        Check.same("23 first of 6", x.firstBow(6), 13);
        for (int gone : new int[] {-1, 0, 3, 7, 8}) {
            Check.refuses("21 gone", ELEMENT, () -> x.isFailed(gone));
            Check.refuses("22 gone", ELEMENT, () -> x.batchSize(gone));
            Check.refuses("23 gone", ELEMENT, () -> x.firstBow(gone));
        }
        x.cast(1, 0, 1);
        Check.same("20 new one last", x.batchAt(5), 8);
        Check.same("21 new one open", x.isFailed(8), false);
    }

    private static void bows() {
        BowFoundry x = ready();
        x.cast(1, 0, 3);
        x.cast(1, 1, 2);
        x.cast(0, 1, 2);
        x.setTolerance(57);
        Check.same("24 first", x.squeak(0), 57);
        Check.same("24 last of 0", x.squeak(2), 83);
        Check.same("24 first of 1", x.squeak(3), 32);
        Check.same("24 last", x.squeak(6), 10);
        Check.same("25 just good", x.isGood(0), true);
        Check.same("25 not good", x.isGood(1), false);
        x.setTolerance(56);
        Check.same("25 just not good", x.isGood(0), false);
        Check.same("26 first", x.batchOf(0), 0);
        Check.same("26 last of 0", x.batchOf(2), 0);
        Check.same("26 first of 1", x.batchOf(3), 1);
        Check.same("26 last", x.batchOf(6), 2);
        x.inspect(1);
        for (int gone : new int[] {Integer.MIN_VALUE, -1, 3, 4, 7, Integer.MAX_VALUE}) {
            Check.refuses("24 gone", ELEMENT, () -> x.squeak(gone));
            Check.refuses("25 gone", ELEMENT, () -> x.isGood(gone));
            Check.refuses("26 gone", ELEMENT, () -> x.batchOf(gone));
        }
        Check.same("26 still", x.batchOf(5), 2);
        x.inspect(0);
        Check.same("24 in a failed batch", x.squeak(1), 70);
    }

    private static void goodBowsAndSample() {
        BowFoundry x = ready();
        x.cast(1, 1, 9);
        Check.same("27 tolerance 50", x.goodBows(0), 5);
        x.setTolerance(32);
        Check.same("27 tolerance 32", x.goodBows(0), 3);
        x.setTolerance(9);
        Check.same("27 tolerance 9", x.goodBows(0), 0);
        x.setTolerance(99);
        x.setStep(5);
        Check.same("27 whatever the step", x.goodBows(0), 9);
        x.cast(1, 1, 1);
        int[] of9 = {0, 9, 5, 3, 3, 2};
        for (int step = 1; step <= 5; step++) {
            x.setStep(step);
            Check.same("28 of 9", x.sampleSize(0), of9[step]);
            Check.same("28 of 1", x.sampleSize(1), 1);
        }
        x.setStep(1);
        x.setTolerance(35);
        Check.same("29 four of nine", x.wouldPass(0), false);
        x.setTolerance(36);
        Check.same("29 four of nine still", x.wouldPass(0), false);
        x.setTolerance(45);
        Check.same("29 five of nine", x.wouldPass(0), true);
        x.setTolerance(9);
        x.inspect(0);
        x.setTolerance(45);
        Check.same("29 a failed one", x.wouldPass(0), true);
        x.setStep(5);
        x.setTolerance(96);
        Check.same("29 one of two", x.wouldPass(0), false);
        x.setTolerance(97);
        Check.same("29 two of two", x.wouldPass(0), true);
        Check.same("29 changes nothing", x.isFailed(0), true);
        for (int gone : new int[] {-1, 2}) {
            Check.refuses("27 gone", ELEMENT, () -> x.goodBows(gone));
            Check.refuses("28 gone", ELEMENT, () -> x.sampleSize(gone));
            Check.refuses("29 gone", ELEMENT, () -> x.wouldPass(gone));
        }
    }

    private static void neededTolerance() {
        BowFoundry x = ready();
        x.cast(1, 1, 9);
        x.cast(1, 0, 4);
        int[] of9 = {0, 45, 36, 32, 36, 97};
        int[] of4 = {0, 83, 83, 96, 57, 57};
        for (int step = 1; step <= 5; step++) {
            x.setStep(step);
            Check.same("30 of 9", x.neededTolerance(0), of9[step]);
            Check.same("31 of 9", x.neededToleranceByTrying(0), of9[step]);
            Check.same("30 of 4", x.neededTolerance(1), of4[step]);
            Check.same("31 of 4", x.neededToleranceByTrying(1), of4[step]);
        }
        x.inspect(1);
        Check.same("30 of a failed one", x.neededTolerance(1), 57);
        Check.same("31 of a failed one", x.neededToleranceByTrying(1), 57);
        Check.same("31 the tolerance stays", x.tolerance(), 50);
        for (int gone : new int[] {-1, 2}) {
            Check.refuses("30 gone", ELEMENT, () -> x.neededTolerance(gone));
            Check.refuses("31 gone", ELEMENT, () -> x.neededToleranceByTrying(gone));
        }
        neededToleranceAtTheEnds();
    }

    /** The recipe (4, 6, 0) in the length 1 gives 99, and (0, 5, 0) in the length 9 gives 0. */
    private static void neededToleranceAtTheEnds() {
        BowFoundry x = new BowFoundry();
        x.addAlloy(4, 6, 0);
        x.addAlloy(0, 5, 0);
        x.addMould(1);
        x.addMould(9);
        x.buy(0, 9);
        x.buy(1, 99);
        x.cast(0, 0, 1);
        x.cast(1, 1, 1);
        Check.same("30 highest", x.neededTolerance(0), 99);
        Check.same("31 highest", x.neededToleranceByTrying(0), 99);
        Check.same("30 lowest", x.neededTolerance(1), 0);
        Check.same("31 lowest", x.neededToleranceByTrying(1), 0);
        x.setTolerance(98);
        Check.same("6 just not", x.inspect(0), false);
        x.setTolerance(0);
        Check.same("6 lowest passes", x.inspect(1), true);
    }

    private static void nextSqueak() {
        BowFoundry x = ready();
        Check.same("32 first", x.nextSqueak(0, 0), 96);
        x.cast(1, 0, 9);
        Check.same("32 after nine", x.nextSqueak(0, 0), 13);
        Check.same("32 the other mould", x.nextSqueak(1, 1), 32);
        x.cast(1, 0, 9);
        x.cast(1, 0, 2);
        Check.same("32 used up", x.nextSqueak(1, 0), 17);
        Check.same("32 changes nothing", x.uses(0), 20);
        Check.refuses("32 alloy -1", INDEX, () -> x.nextSqueak(-1, 0));
        Check.refuses("32 alloy 2", INDEX, () -> x.nextSqueak(2, 0));
        Check.refuses("32 mould -1", INDEX, () -> x.nextSqueak(0, -1));
        Check.refuses("32 mould 2", INDEX, () -> x.nextSqueak(0, 2));
    }

    private static void possibleBows() {
        BowFoundry x = new BowFoundry();
        x.addAlloy(3, 2, 1);
        x.addAlloy(0, 5, 0);
        Check.same("33 nothing", x.possibleBows(0), 0);
        x.buy(0, 98);
        x.buy(1, 99);
        Check.same("33 no silver", x.possibleBows(0), 0);
        x.buy(2, 99);
        Check.same("33 by copper", x.possibleBows(0), 32);
        Check.same("33 by tin", x.possibleBows(1), 19);
        x.addAlloy(1, 1, 9);
        Check.same("33 by silver", x.possibleBows(2), 11);
        Check.same("33 without moulds", x.mouldCount(), 0);
        Check.refuses("33 -1", INDEX, () -> x.possibleBows(-1));
        Check.refuses("33 3", INDEX, () -> x.possibleBows(3));
    }

    private static void metalAccounts() {
        BowFoundry x = ready();
        metals(x, "nothing cast", 0, 0, 0);
        x.cast(0, 0, 4);
        x.cast(1, 1, 3);
        x.cast(0, 1, 2);
        metals(x, "nine bows", 21, 12, 6);
        x.setTolerance(99);
        x.inspect(0);
        metals(x, "four sold", 9, 4, 2);
        x.setTolerance(0);
        x.inspect(2);
        metals(x, "two failed", 9, 4, 2);
        x.melt(2);
        metals(x, "two melted", 3, 0, 0);
        x.buy(1, 50);
        metals(x, "more tin", 3, 0, 0);
        x.undo();
        x.undo();
        metals(x, "not melted", 9, 4, 2);
        for (int metal : new int[] {-1, 3}) {
            Check.refuses("34 no metal", INDEX, () -> x.metalInBatches(metal));
            Check.refuses("35 no metal", INDEX, () -> x.metalByAccounts(metal));
        }
    }

    private static void metals(BowFoundry x, String what, int... grams) {
        for (int metal = 0; metal < 3; metal++) {
            Check.same("34 " + what, x.metalInBatches(metal), grams[metal]);
            Check.same("35 " + what, x.metalByAccounts(metal), grams[metal]);
        }
    }

    /** The sums are 127, 32, 83, 32, 135 and 96 + 9 + 22 + 35 = 162. */
    private static void batchBySqueak() {
        BowFoundry x = ready();
        Check.refuses("36 none", ELEMENT, () -> x.batchBySqueak(0));
        x.cast(1, 0, 2);
        x.cast(1, 1, 1);
        x.cast(1, 0, 1);
        x.renewMould(1);
        x.cast(1, 1, 1);
        x.renewMould(1);
        x.cast(1, 1, 3);
        x.cast(1, 0, 1);
        x.undo();
        x.renewMould(0);
        x.cast(0, 0, 4);
        int[] ranked = {1, 3, 2, 0, 4, 5};
        for (int rank = 0; rank < 6; rank++) {
            Check.same("36 rank " + rank, x.batchBySqueak(rank), ranked[rank]);
        }
        Check.refuses("36 -1", ELEMENT, () -> x.batchBySqueak(-1));
        Check.refuses("36 6", ELEMENT, () -> x.batchBySqueak(6));
        x.inspect(1);
        Check.same("36 without 1", x.batchBySqueak(0), 3);
        Check.refuses("36 5", ELEMENT, () -> x.batchBySqueak(5));
        x.inspect(2);
        Check.same("36 failed ones too", x.batchBySqueak(1), 2);
    }

    private static void totals() {
        BowFoundry x = ready();
        x.cast(0, 0, 4);
        x.cast(1, 1, 3);
        Check.same("37 seven", x.castTotal(), 7);
        Check.same("38 none", x.soldTotal(), 0);
        x.setTolerance(99);
        x.inspect(0);
        x.setTolerance(0);
        x.inspect(1);
        Check.same("39 none", x.meltedTotal(), 0);
        Check.same("40 none", x.lostGrams(0), 0);
        x.melt(1);
        Check.same("37 still seven", x.castTotal(), 7);
        Check.same("38 four", x.soldTotal(), 4);
        Check.same("39 three", x.meltedTotal(), 3);
        Check.same("40 three", x.lostGrams(0), 3);
        Check.same("40 no tin", x.lostGrams(1), 0);
        x.cast(0, 0, 5);
        x.inspect(2);
        x.melt(2);
        Check.same("37 twelve", x.castTotal(), 12);
        Check.same("39 eight", x.meltedTotal(), 8);
        Check.same("40 copper", x.lostGrams(0), 8);
        Check.same("40 tin", x.lostGrams(1), 5);
        Check.same("40 silver", x.lostGrams(2), 5);
        Check.refuses("40 -1", INDEX, () -> x.lostGrams(-1));
        Check.refuses("40 3", INDEX, () -> x.lostGrams(3));
    }

    private static void meanAndShare() {
        BowFoundry x = ready();
        Check.refuses("41 none", ARITHMETIC, () -> x.meanSqueak());
        Check.refuses("42 none", ARITHMETIC, () -> x.soldShare());
        x.cast(1, 0, 2);
        Check.same("41 two", x.meanSqueak(), 63.5);
        x.cast(1, 1, 1);
        Check.same("41 three", x.meanSqueak(), 159.0 / 3.0);
        x.cast(1, 1, 3);
        Check.same("41 six", x.meanSqueak(), 333.0 / 6.0);
        Check.same("42 nothing sold", x.soldShare(), 0.0f);
        x.inspect(1);
        Check.same("42 one of six", x.soldShare(), 1.0f / 6.0f);
        Check.same("41 five", x.meanSqueak(), 301.0 / 5.0);
        x.inspect(0);
        Check.same("41 failed ones too", x.meanSqueak(), 301.0 / 5.0);
        x.melt(0);
        Check.same("42 all that were cast", x.soldShare(), 1.0f / 6.0f);
        x.setTolerance(99);
        x.inspect(2);
        Check.same("42 four of six", x.soldShare(), 4.0f / 6.0f);
        Check.refuses("41 none left", ARITHMETIC, () -> x.meanSqueak());
        x.renewMould(1);
        x.cast(1, 1, 9);
        Check.same("41 nine", x.meanSqueak(), 456.0 / 9.0);
        Check.same("36 nine", x.batchBySqueak(0), 3);
    }

    private static void isConsistent() {
        BowFoundry x = ready();
        for (int round = 0; round < 6; round++) {
            x.cast(round % 2, 0, 2);
            x.cast(1 - round % 2, 1, 3);
            Check.same("43 cast", x.isConsistent(), true);
            x.setStep(round % 5 + 1);
            x.setTolerance(30 * (round % 3));
            x.inspect(2 * round);
            x.inspect(2 * round + 1);
            Check.same("43 inspected", x.isConsistent(), true);
            for (int i = x.batchCount() - 1; i >= 0; i--) {
                x.melt(x.batchAt(i));
            }
            Check.same("43 melted", x.isConsistent(), true);
        }
    }

    private static void renderBatch() {
        BowFoundry x = ready();
        Check.refuses("44 none", ELEMENT, () -> x.renderBatch(0));
        x.cast(1, 1, 1);
        x.cast(1, 0, 5);
        Check.same("44 length", x.renderBatch(0), 5);
        Check.same("44 one bow", Check.output(x, 5), "0?:32");
        Check.refuses("44 end", INDEX, () -> x.outputAt(5));
        Check.same("44 five bows", batchText(x, 1), "1?:57,70,83,96,9");
        x.inspect(1);
        Check.same("44 failed", batchText(x, 1), "1!:57,70,83,96,9");
        Check.refuses("44 -1", ELEMENT, () -> x.renderBatch(-1));
        Check.refuses("44 2", ELEMENT, () -> x.renderBatch(2));
        Check.same("44 the text stays", Check.output(x, 16), "1!:57,70,83,96,9");
    }

    private static void renderStore() {
        BowFoundry x = new BowFoundry();
        x.buy(0, 12);
        Check.same("45 length", x.renderStore(), 7);
        Check.same("45 no mould", Check.output(x, 7), "c12t0s0");
        x.addMould(25);
        x.addMould(8);
        x.addAlloy(1, 0, 0);
        x.cast(0, 0, 3);
        x.buy(2, 99);
        Check.same("45 moulds", storeText(x), "c9t0s99 25x3 8x0");
        Check.refuses("45 end", INDEX, () -> x.outputAt(16));
    }

    private static void outputAt() {
        BowFoundry x = ready();
        Check.refuses("46 empty", INDEX, () -> x.outputAt(0));
        x.renderStore();
        Check.same("46 first", x.outputAt(0), 'c');
        Check.same("46 last", x.outputAt(21), '0');
        Check.refuses("46 end", INDEX, () -> x.outputAt(22));
        Check.refuses("46 -1", INDEX, () -> x.outputAt(-1));
        x.cast(1, 0, 1);
        Check.same("46 the text stays", x.outputAt(3), '7');
        x.renderBatch(0);
        Check.same("46 replaced", x.outputAt(3), '5');
        Check.refuses("46 shorter", INDEX, () -> x.outputAt(5));
    }

    private static void type() {
        BowFoundry x = new BowFoundry();
        Check.refuses("47 31", ARGUMENT, () -> x.type((char) 31));
        Check.refuses("47 127", ARGUMENT, () -> x.type((char) 127));
        Check.refuses("47 0", ARGUMENT, () -> x.type((char) 0));
        Check.refuses("47 65535", ARGUMENT, () -> x.type((char) 65535));
        Check.same("47 32", x.type((char) 32), 1);
        Check.same("47 126", x.type((char) 126), 2);
        for (int i = 3; i <= 60; i++) {
            Check.same("47 more", x.type('x'), i);
        }
        Check.refuses("47 full", STATE, () -> x.type('x'));
        Check.refuses("47 argument before state", ARGUMENT, () -> x.type((char) 127));
        Check.refuses("47 is no change", STATE, () -> x.undo());
        Check.refuses("48 wrong form", ARGUMENT, () -> x.runScript());
        Check.same("47 empty again", x.type('x'), 1);
    }

    private static void runScript() {
        BowFoundry x = new BowFoundry();
        Check.same("48 seven", run(x, "alloy 100;mould 25;buy 0 9;cast 0 0 4;limit 9;step 3;test 0"), 7);
        Check.same("48 store", storeText(x), "c5t0s0 25x4");
        Check.same("48 batch", batchText(x, 0), "0!:32,45,58,71");
        Check.same("48 tolerance", x.tolerance(), 9);
        Check.same("48 step", x.step(), 3);
        Check.same("48 three", run(x, "melt 0;renew 0;buy 2 09"), 3);
        Check.same("48 afterwards", storeText(x), "c5t0s9 25x0");
        Check.same("48 melted", x.meltedTotal(), 4);
        Check.same("48 one change", x.undo(), 1);
        Check.same("48 all undone", batchText(x, 0) + storeText(x), "0!:32,45,58,71c5t0s0 25x4");
        Check.same("48 the first", x.undo(), 0);
        Check.same("48 nothing left", x.alloyCount() + x.mouldCount() + x.batchCount(), 0);
        Check.same("48 empty buffer", x.type('a'), 1);
    }

    private static void scriptForms() {
        BowFoundry x = new BowFoundry();
        Check.same("48 alloy", run(x, "alloy 321"), 1);
        Check.same("48 recipe", x.parts(0, 0) * 100 + x.parts(0, 1) * 10 + x.parts(0, 2), 321);
        Check.same("48 mould of one digit", run(x, "mould 7"), 1);
        Check.same("48 mould of two digits", run(x, "mould 50"), 1);
        Check.same("48 lengths", x.mouldLength(0) * 100 + x.mouldLength(1), 750);
        Check.same("48 buy", run(x, "buy 1 99;buy 0 99;buy 2 8"), 3);
        Check.same("48 bought", storeText(x), "c99t99s8 7x0 50x0");
        Check.same("48 eight commands", run(x, "step 1;step 2;step 3;step 4;step 5;step 1;step 2;limit 60"), 8);
        Check.same("48 the last holds", x.step() * 100 + x.tolerance(), 260);
        Check.same("48 cast", run(x, "cast 0 1 2"), 1);
        Check.same("48 batch", batchText(x, 0), "0?:96,9");
        Check.same("48 failing is no failure", run(x, "test 00"), 1);
        Check.same("48 failed", x.isFailed(0), true);
        Check.same("48 limit 99", run(x, "limit 99"), 1);
        Check.same("48 passes", run(x, "cast 0 0 1;test 1"), 2);
        Check.same("48 sold", x.soldTotal(), 1);
        Check.same("48 renew", run(x, "renew 1"), 1);
        Check.same("48 renewed", x.uses(1), 0);
        BowFoundry y = ready();
        for (int i = 0; i < 11; i++) {
            y.cast(1, 0, 1);
            y.undo();
            y.cast(1, 1, 1);
            y.setTolerance(99);
            y.inspect(i);
        }
        y.renewMould(0);
        y.cast(1, 0, 1);
        Check.same("48 batch of two digits", run(y, "limit 0;test 11;melt 11"), 3);
        Check.same("48 melted", y.meltedTotal(), 1);
    }

    private static void scriptErrors() {
        wrongForm("", 0);
        wrongForm("x", 0);
        wrongForm(" step 1", 0);
        wrongForm("Step 1", 0);
        wrongForm("s", 1);
        wrongForm("m", 1);
        wrongForm("ma", 1);
        wrongForm("mo", 2);
        wrongForm("me", 2);
        wrongForm("mel 1", 3);
        wrongForm("moult 1", 4);
        wrongForm("step", 4);
        wrongForm("step1", 4);
        wrongForm("step ", 5);
        wrongForm("step  1", 5);
        wrongForm("step x", 5);
        wrongForm("step 12", 6);
        wrongForm("step 1 ", 6);
        wrongForm("step 1;", 7);
        wrongForm("step 1;;", 7);
        wrongForm("step 1; step 1", 7);
        wrongForm("step 1;limit", 12);
        wrongForm("alloy 12", 8);
        wrongForm("alloy 1 2 3", 7);
        wrongForm("alloy 1234", 9);
        wrongForm("mould 123", 8);
        wrongForm("mould 1x", 7);
        wrongForm("buy 1", 5);
        wrongForm("buy 12", 5);
        wrongForm("buy 1 ", 6);
        wrongForm("buy 1 x", 6);
        wrongForm("buy 1 123", 8);
        wrongForm("cast 1 2", 8);
        wrongForm("cast 12 3", 6);
        wrongForm("cast 1 2 34", 10);
        wrongForm("test -1", 5);
        wrongForm("test 100", 7);
        wrongForm("melt 100", 7);
        wrongForm("renew 10", 7);
        wrongForm("limit 100", 8);
        wrongForm("limit 1:", 7);
        wrongForm("limit /", 6);
        wrongForm("buy 1 1/", 7);
        wrongForm("step 1;step 2;step 3;step 4;step 5;step 1;step 2;step 3;step", 60);
        wrongForm("step 1;step 2;step 3;step 4;step 5;step 1;step 2;step 3;stxp", 58);
    }

    private static void wrongForm(String script, int position) {
        BowFoundry x = new BowFoundry();
        Check.type(x, script);
        Check.refuses("48 form of " + script, ARGUMENT, () -> x.runScript());
        Check.same("49 " + script, x.errorPosition(), position);
        Check.refuses("50 " + script, ELEMENT, () -> x.failedCommand());
        Check.refuses("48 no change " + script, STATE, () -> x.undo());
        Check.same("48 no effect " + script, x.step() + x.tolerance(), 52);
        Check.same("48 empty after " + script, x.type('s'), 1);
    }

    private static void scriptFailures() {
        failing("alloy 000", 0);
        failing("step 3;step 0", 1);
        failing("step 3;step 6;step 0", 1);
        failing("limit 9;mould 1;mould 2;mould 0", 3);
        failing("mould 51", 0);
        failing("limit 8;buy 3 1", 1);
        failing("buy 0 9;buy 0 0", 1);
        failing("limit 7;cast 5 0 1", 1);
        failing("cast 0 0 0", 0);
        failing("cast 0 0 9;cast 0 0 9;cast 0 0 3", 2);
        failing("alloy 009;cast 2 0 9;cast 2 1 9", 2);
        failing("cast 0 0 1;test 0;test 0", 2);
        failing("test 99", 0);
        failing("cast 0 0 1;melt 0", 1);
        failing("melt 0", 0);
        failing("renew 0;renew 2", 1);
        failing("step 1;step 2;step 3;step 4;step 5;step 1;step 2;step 9", 7);
    }

    private static void failing(String script, int command) {
        BowFoundry x = ready();
        for (int i = 0; i < 4; i++) {
            x.undo();
        }
        String before = storeText(x);
        Check.type(x, script);
        Check.refuses("48 failure of " + script, STATE, () -> x.runScript());
        Check.same("50 " + script, x.failedCommand(), command);
        Check.refuses("49 " + script, ELEMENT, () -> x.errorPosition());
        Check.same("48 no effect " + script, storeText(x), before);
        Check.same("48 settings " + script, x.step() + x.tolerance() + x.alloyCount(), 54);
        Check.same("48 no batch " + script, x.batchCount() + x.castTotal(), 0);
        Check.same("48 no change " + script, x.undo(), 3);
        Check.same("48 empty after " + script, x.type('s'), 1);
    }

    private static void errorPositionAndFailedCommand() {
        BowFoundry x = new BowFoundry();
        Check.refuses("49 none", ELEMENT, () -> x.errorPosition());
        Check.refuses("50 none", ELEMENT, () -> x.failedCommand());
        Check.type(x, "step 1;stop");
        Check.refuses("48 form", ARGUMENT, () -> x.runScript());
        Check.same("49 position", x.errorPosition(), 9);
        Check.type(x, "step 1;step 0");
        Check.refuses("48 failure", STATE, () -> x.runScript());
        Check.same("50 command", x.failedCommand(), 1);
        Check.same("49 stays", x.errorPosition(), 9);
        x.save();
        run(x, "step 1");
        Check.same("49 stays after a good one", x.errorPosition(), 9);
        Check.same("50 stays after a good one", x.failedCommand(), 1);
        Check.refuses("48 empty script", ARGUMENT, () -> x.runScript());
        Check.same("49 latest", x.errorPosition(), 0);
        Check.same("50 stays after a wrong form", x.failedCommand(), 1);
        Check.type(x, "step 0");
        Check.refuses("48 first fails", STATE, () -> x.runScript());
        Check.same("50 latest", x.failedCommand(), 0);
        x.undo();
        x.restore();
        Check.same("49 not undone", x.errorPosition(), 0);
        Check.same("50 not undone", x.failedCommand(), 0);
    }

    private static void undo() {
        BowFoundry x = new BowFoundry();
        Check.refuses("51 nothing", STATE, () -> x.undo());
        for (int i = 0; i < 12; i++) {
            x.setTolerance(i);
        }
        for (int left = 7; left >= 4; left--) {
            Check.same("51 left", x.undo(), left);
            Check.same("51 tolerance", x.tolerance(), left + 3);
        }
        x.setTolerance(90);
        Check.same("51 after a new change", x.undo(), 4);
        for (int left = 3; left >= 0; left--) {
            Check.same("51 left", x.undo(), left);
            Check.same("51 tolerance", x.tolerance(), left + 3);
        }
        Check.refuses("51 only eight", STATE, () -> x.undo());
        Check.same("51 stays", x.tolerance(), 3);
        x.setTolerance(3);
        Check.same("51 a change without a difference", x.undo(), 0);
        Check.refuses("51 no change", ARGUMENT, () -> x.setTolerance(100));
        Check.refuses("51 nothing again", STATE, () -> x.undo());
    }

    private static void undoEachChange() {
        BowFoundry x = ready();
        x.cast(0, 0, 4);
        x.cast(1, 1, 3);
        x.setTolerance(0);
        x.inspect(0);
        x.setTolerance(99);
        undone(x, "addAlloy", () -> x.addAlloy(1, 2, 3));
        undone(x, "addMould", () -> x.addMould(9));
        undone(x, "buy", () -> x.buy(1, 9));
        undone(x, "cast", () -> x.cast(0, 1, 9));
        undone(x, "inspect", () -> x.inspect(1));
        undone(x, "melt", () -> x.melt(0));
        undone(x, "renewMould", () -> x.renewMould(0));
        undone(x, "setTolerance", () -> x.setTolerance(7));
        undone(x, "setStep", () -> x.setStep(4));
        undone(x, "runScript", () -> run(x, "limit 0;test 1;melt 0;melt 1;cast 0 0 9;renew 1"));
        x.setTolerance(0);
        undone(x, "inspect that fails", () -> x.inspect(1));
        Check.same("51 the number of the batch", x.cast(1, 1, 1), 2);
        Check.same("51 the number of the bow", x.firstBow(2), 7);
    }

    private static void undone(BowFoundry x, String what, Check.Call change) {
        String before = everything(x);
        change.answer();
        Check.same("51 differs by " + what, everything(x).equals(before), false);
        x.undo();
        Check.same("51 undone " + what, everything(x), before);
    }

    private static String everything(BowFoundry x) {
        StringBuilder all = new StringBuilder(storeText(x));
        for (int i = 0; i < x.batchCount(); i++) {
            all.append(' ').append(batchText(x, x.batchAt(i))).append('@').append(x.firstBow(x.batchAt(i)));
        }
        all.append(' ').append(x.alloyCount()).append(' ').append(x.tolerance()).append(' ').append(x.step());
        all.append(' ').append(x.castTotal()).append(' ').append(x.soldTotal()).append(' ').append(x.meltedTotal());
        for (int metal = 0; metal < 3; metal++) {
            all.append(' ').append(x.lostGrams(metal)).append(' ').append(x.metalByAccounts(metal));
        }
        return all.append(x.isConsistent()).toString();
    }

    private static void undoAndWhatStays() {
        BowFoundry x = ready();
        x.setStep(4);
        x.renderStore();
        x.type('s');
        x.type('t');
        x.undo();
        Check.same("51 the buffer stays", x.type('e'), 3);
        Check.same("51 the text stays", x.outputAt(0), 'c');
        Check.type(x, "p 5");
        Check.same("51 the script runs", x.runScript(), 1);
        Check.same("51 step", x.step(), 5);
        x.undo();
        Check.same("51 step before", x.step(), 2);
        x.save();
        x.undo();
        Check.same("51 the snapshot stays", x.restore(), 0);
        Check.same("51 restored", x.stock(2), 297);
    }

    private static void saveAndRestore() {
        BowFoundry x = ready();
        Check.refuses("53 none", STATE, () -> x.restore());
        Check.same("53 keeps the undos", x.undo(), 7);
        x.buy(2, 99);
        x.cast(0, 0, 4);
        x.cast(1, 1, 2);
        Check.same("52 two", x.save(), 2);
        String saved = everything(x);
        Check.same("52 keeps the undos", x.undo(), 7);
        x.cast(0, 1, 9);
        run(x, "limit 0;test 0;melt 0;alloy 999;mould 9;step 3");
        Check.same("53 two", x.restore(), 2);
        Check.same("53 restored", everything(x), saved);
        Check.refuses("53 nothing to undo", STATE, () -> x.undo());
        Check.same("53 the number of the batch", x.cast(1, 1, 1), 2);
        Check.same("53 the number of the bow", x.firstBow(2), 6);
        Check.same("53 a change after it", x.undo(), 0);
        x.setTolerance(99);
        x.inspect(0);
        x.type('s');
        Check.same("53 kept", x.restore(), 2);
        Check.same("53 restored again", everything(x), saved);
        Check.same("53 the buffer stays", x.type('t'), 2);
        x.setTolerance(99);
        x.inspect(1);
        Check.same("52 replaces", x.save(), 1);
        x.inspect(0);
        Check.same("53 the later one", x.restore(), 1);
        Check.same("53 sold", x.soldTotal(), 2);
        Check.same("53 batch", x.batchAt(0), 0);
    }
}
