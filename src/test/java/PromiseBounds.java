import java.util.List;
import java.util.function.BiFunction;
import java.util.function.Function;
import java.util.function.IntFunction;
import java.util.function.Supplier;

/** The sentences of the promises that name a boundary, in their order. */
final class PromiseBounds {
    private static final String NO_BATCH = "Throws NoSuchElementException if there is no such batch";
    private static final String NO_BOW = "Throws NoSuchElementException if there is no such bow in a batch that exists";
    private static final String NO_METAL = "Throws IndexOutOfBoundsException if there is no such metal";
    private static final String NO_ALLOY = "Throws IndexOutOfBoundsException if there is no such alloy";
    private static final String NO_MOULD = "Throws IndexOutOfBoundsException if there is no such mould";

    private PromiseBounds() {
    }

    static void test() {
        newObject();
        additions();
        purchases();
        purchaseUpTo999();
        casts();
        castsInAFullPlace();
        castsWithTooLittle();
        inspections();
        meltings();
        settings();
        indices();
        positions();
        batches();
        bows();
        samples();
        predictions();
        neededTolerances();
        nextSqueaks();
        possibleBows();
        metals();
        ranks();
        totals();
        means();
        shares();
        consistency();
        batchTexts();
        storeTexts();
        outputs();
        typing();
        scripts();
        errorPositions();
        failedCommands();
        undos();
        snapshots();
    }

    /** The call answers all numbers between the bounds and refuses the others, each on a foundry of its own. */
    private static void onlyBetween(String what, Class<? extends RuntimeException> due, int least, int greatest,
            IntFunction<Object> call) {
        for (int i = least; i <= greatest; i++) {
            int allowed = i;
            Check.answers(what + " " + i, () -> call.apply(allowed));
        }
        int[] beyond = {least - 1, greatest + 1, least - 100, greatest + 100, -128, 256, 65536, Integer.MIN_VALUE,
            Integer.MAX_VALUE};
        for (int refused : beyond) {
            Check.refuses(what + " " + refused, due, () -> call.apply(refused));
        }
    }

    private static void newObject() {
        Check.sentence("Promise 1", "Creates a foundry without alloys, moulds and batches.");
        BowFoundry x = new BowFoundry();
        Check.same("counts", x.alloyCount() + x.mouldCount() + x.batchCount(), 0);
        Check.refuses("no alloy", Given.INDEX, () -> x.parts(0, 0));
        Check.refuses("no mould", Given.INDEX, () -> x.uses(0));
        Check.refuses("no batch", Given.ELEMENT, () -> x.batchAt(0));
        Check.refuses("no bow", Given.ELEMENT, () -> x.squeak(0));
        Check.refuses("nothing to cast", Given.INDEX, () -> x.cast(0, 0, 1));
        x.addMould(1);
        Check.refuses("no alloy to cast", Given.INDEX, () -> x.cast(0, 0, 1));
        BowFoundry y = new BowFoundry();
        y.addAlloy(1, 1, 1);
        Check.refuses("no mould to cast in", Given.INDEX, () -> y.cast(0, 0, 1));
    }

    private static void additions() {
        Check.sentence("Promise 2", "Throws IllegalArgumentException if a number of parts is not between 0 and 9");
        onlyBetween("copper", Given.ARGUMENT, 0, 9, p -> new BowFoundry().addAlloy(p, 1, 1));
        onlyBetween("tin", Given.ARGUMENT, 0, 9, p -> new BowFoundry().addAlloy(1, p, 1));
        onlyBetween("silver", Given.ARGUMENT, 0, 9, p -> new BowFoundry().addAlloy(1, 1, p));
        Check.sentence("Promise 2", "or all of them are 0");
        onlyBetween("copper alone", Given.ARGUMENT, 1, 9, p -> new BowFoundry().addAlloy(p, 0, 0));
        onlyBetween("tin alone", Given.ARGUMENT, 1, 9, p -> new BowFoundry().addAlloy(0, p, 0));
        onlyBetween("silver alone", Given.ARGUMENT, 1, 9, p -> new BowFoundry().addAlloy(0, 0, p));
        Check.sentence("Promise 2", "Throws IllegalStateException if there are 6 alloys");
        BowFoundry x = new BowFoundry();
        for (int i = 0; i < 6; i++) {
            Check.same("index", x.addAlloy(1, 1, 1), i);
        }
        Check.refuses("seventh", Given.STATE, () -> x.addAlloy(1, 1, 1));
        Check.refuses("eighth", Given.STATE, () -> x.addAlloy(1, 1, 1));
        x.undo();
        Check.same("sixth again", x.addAlloy(1, 1, 1), 5);
        Check.sentence("Promise 3", "Throws IllegalArgumentException if length is not between 1 and 50");
        onlyBetween("length", Given.ARGUMENT, 1, 50, l -> new BowFoundry().addMould(l));
        Check.sentence("Promise 3", "Throws IllegalStateException if there are 4 moulds");
        BowFoundry y = new BowFoundry();
        for (int i = 0; i < 4; i++) {
            Check.same("index", y.addMould(1), i);
        }
        Check.refuses("fifth", Given.STATE, () -> y.addMould(1));
        y.undo();
        Check.same("fourth again", y.addMould(1), 3);
    }

    private static void purchases() {
        Check.sentence("Promise 4", NO_METAL);
        onlyBetween("metal", Given.INDEX, 0, 2, m -> new BowFoundry().buy(m, 1));
        Check.sentence("Promise 4", "Throws IllegalArgumentException if grams is not between 1 and 99");
        for (int metal = 0; metal < 3; metal++) {
            int bought = metal;
            onlyBetween("grams", Given.ARGUMENT, 1, 99, g -> new BowFoundry().buy(bought, g));
        }
    }

    private static void purchaseUpTo999() {
        Check.sentence("Promise 4", "Throws IllegalStateException if the stock would be greater than 999");
        for (int metal = 0; metal < 3; metal++) {
            int bought = metal;
            BowFoundry x = new BowFoundry();
            Given.buyAll(x, metal, 901);
            Check.refuses("99 more", Given.STATE, () -> x.buy(bought, 99));
            Check.same("98 more", x.buy(metal, 98), 999);
            Check.refuses("1 more", Given.STATE, () -> x.buy(bought, 1));
            Check.same("another metal", x.buy((metal + 1) % 3, 99), 99);
            BowFoundry y = new BowFoundry();
            Given.buyAll(y, metal, 998);
            Check.refuses("2 more", Given.STATE, () -> y.buy(bought, 2));
            Check.same("just 1 more", y.buy(metal, 1), 999);
        }
    }

    private static void casts() {
        Check.sentence("Promise 5", NO_ALLOY);
        onlyBetween("alloy", Given.INDEX, 0, 0, a -> Given.workshop().cast(a, 0, 1));
        Check.sentence("Promise 5", "or no such mould");
        onlyBetween("mould", Given.INDEX, 0, 0, m -> Given.workshop().cast(0, m, 1));
        onlyBetween("alloy of six", Given.INDEX, 0, 5, a -> sixAlloysFourMoulds().cast(a, 0, 1));
        onlyBetween("mould of four", Given.INDEX, 0, 3, m -> sixAlloysFourMoulds().cast(0, m, 1));
        Check.sentence("Promise 5", "Throws IllegalArgumentException if bows is not between 1 and 9");
        onlyBetween("bows", Given.ARGUMENT, 1, 9, b -> Given.workshop().cast(0, 0, b));
    }

    private static BowFoundry sixAlloysFourMoulds() {
        BowFoundry x = Given.workshop();
        for (int i = 1; i < 6; i++) {
            x.addAlloy(i, 1, 0);
        }
        for (int i = 1; i < 4; i++) {
            x.addMould(10 * i);
        }
        return x;
    }

    private static void castsInAFullPlace() {
        Check.sentence("Promise 5", "Throws IllegalStateException if 8 batches exist");
        BowFoundry x = Given.eightBatches();
        x.addMould(7);
        Check.refuses("ninth", Given.STATE, () -> x.cast(0, 0, 1));
        Check.refuses("ninth in an unused mould", Given.STATE, () -> x.cast(0, 1, 1));
        Given.sell(x, 3);
        Check.same("eighth again", x.cast(0, 0, 1), 8);
        Check.sentence("Promise 5", "or the mould would have more than 20 uses");
        for (int used = 12; used <= 20; used++) {
            for (int bows = 1; bows <= 9; bows++) {
                BowFoundry y = Given.batchOf(9);
                y.cast(0, 0, used - 11);
                y.cast(0, 0, 2);
                int more = bows;
                boolean tooMany = used + bows > 20;
                Check.same(used + " and " + bows, Check.outcome(() -> y.cast(0, 0, more)),
                        tooMany ? "throws.IllegalStateException" : "3");
                Check.same("uses", y.uses(0), tooMany ? used : used + bows);
            }
        }
    }

    private static void castsWithTooLittle() {
        Check.sentence("Promise 5", "Throws UnsupportedOperationException if the store has too little of a metal");
        for (int metal = 0; metal < 3; metal++) {
            for (int bows : new int[] {1, 9}) {
                BowFoundry x = Given.foundry(5, 5, 5, 1, 5 * bows - 1);
                x.buy((metal + 1) % 3, 1);
                x.buy((metal + 2) % 3, 1);
                Check.refuses("one gram short", Given.UNSUPPORTED, () -> x.cast(0, 0, bows));
                x.buy(metal, 1);
                Check.same("enough", x.cast(0, 0, bows), 0);
                Check.same("nothing left", Given.storeText(x), "c0t0s0 1x" + bows);
            }
        }
        BowFoundry y = new BowFoundry();
        y.addAlloy(0, 0, 1);
        y.addMould(1);
        y.buy(2, 1);
        Check.same("none of the others needed", y.cast(0, 0, 1), 0);
    }

    private static void noSuchBatch(String promise, Function<BowFoundry, IntFunction<Object>> call) {
        Check.sentence(promise, NO_BATCH);
        Check.refuses("nothing there yet", Given.ELEMENT, () -> call.apply(Given.workshop()).apply(0));
        int[] gone = {-1, 1, 2, 5, 8, 100, Integer.MIN_VALUE, Integer.MAX_VALUE};
        for (int batch : gone) {
            Check.refuses("batch " + batch, Given.ELEMENT, () -> call.apply(Given.gaps()).apply(batch));
        }
    }

    private static void inspections() {
        noSuchBatch("Promise 6", x -> b -> x.inspect(b));
        Check.answers("the first", () -> Given.gaps().inspect(0));
        Check.answers("the last", () -> Given.gaps().inspect(4));
        Check.sentence("Promise 6", "Throws IllegalStateException if the batch is failed");
        Check.refuses("a failed one", Given.STATE, () -> Given.gaps().inspect(3));
        BowFoundry x = Given.batchOf(1);
        Given.fail(x, 0);
        x.setTolerance(99);
        Check.refuses("a failed one that would pass", Given.STATE, () -> x.inspect(0));
        x.undo();
        x.undo();
        Check.same("open again", x.inspect(0), false);
        Check.sentence("Promise 6", "Returns true if the batch passes.");
        BowFoundry y = Given.batchOf(1);
        y.setTolerance(11);
        Check.same("just not", y.wouldPass(0), false);
        y.setTolerance(12);
        Check.same("just so", y.inspect(0), true);
    }

    private static void meltings() {
        noSuchBatch("Promise 7", x -> b -> x.melt(b));
        Check.answers("the failed one", () -> Given.gaps().melt(3));
        Check.sentence("Promise 7", "Throws IllegalStateException if the batch is open");
        Check.refuses("the first", Given.STATE, () -> Given.gaps().melt(0));
        Check.refuses("the last", Given.STATE, () -> Given.gaps().melt(4));
        Check.sentence("Promise 7", "Returns the grams that are returned to the store, of all metals together.");
        int[][] recipes = {{0, 0, 1}, {1, 1, 1}, {0, 0, 2}, {2, 2, 2}, {9, 9, 9}};
        int[] returned = {0, 0, 1, 3, 24};
        for (int i = 0; i < recipes.length; i++) {
            for (int bows : new int[] {1, 9}) {
                BowFoundry x = Given.foundry(recipes[i][0], recipes[i][1], recipes[i][2], 1, 81);
                x.cast(0, 0, bows);
                Given.fail(x, 0);
                int before = x.stock(0) + x.stock(1) + x.stock(2);
                Check.same("returned", x.melt(0), bows * returned[i]);
                Check.same("to the store", x.stock(0) + x.stock(1) + x.stock(2) - before, bows * returned[i]);
            }
        }
    }

    private static void settings() {
        Check.sentence("Promise 8", NO_MOULD);
        Check.refuses("nothing there yet", Given.INDEX, () -> new BowFoundry().renewMould(0));
        onlyBetween("mould", Given.INDEX, 0, 3, m -> sixAlloysFourMoulds().renewMould(m));
        Check.sentence("Promise 8", "Returns the number of uses before the call.");
        BowFoundry x = Given.usedUp();
        Check.same("greatest", x.renewMould(0), 20);
        Check.same("least", x.renewMould(0), 0);
        Check.sentence("Promise 8", "Renews a mould, whose number of uses becomes 0.");
        x.addMould(7);
        x.cast(0, 0, 9);
        x.cast(0, 1, 1);
        x.renewMould(0);
        Check.same("becomes 0", x.uses(0), 0);
        Check.same("of this mould alone", x.uses(1), 1);
        Check.same("20 uses again", x.cast(0, 0, 9) + x.cast(0, 0, 9) + x.cast(0, 0, 2), 5 + 6 + 7);
        Check.sentence("Promise 9", "Throws IllegalArgumentException if tolerance is not between 0 and 99");
        onlyBetween("tolerance", Given.ARGUMENT, 0, 99, t -> new BowFoundry().setTolerance(t));
        Check.sentence("Promise 9", "Returns the previous tolerance.");
        Check.same("the first", x.setTolerance(99), 50);
        Check.same("greatest", x.setTolerance(0), 99);
        Check.same("least", x.setTolerance(50), 0);
        Check.sentence("Promise 10", "Throws IllegalArgumentException if step is not between 1 and 5");
        onlyBetween("step", Given.ARGUMENT, 1, 5, s -> new BowFoundry().setStep(s));
        Check.sentence("Promise 10", "Returns the previous step.");
        Check.same("the first", x.setStep(5), 2);
        Check.same("greatest", x.setStep(1), 5);
        Check.same("least", x.setStep(2), 1);
    }

    private static void indices() {
        Check.sentence("Promise 12", NO_ALLOY);
        onlyBetween("alloy", Given.INDEX, 0, 0, a -> Given.workshop().parts(a, 0));
        onlyBetween("alloy of six", Given.INDEX, 0, 5, a -> sixAlloysFourMoulds().parts(a, 2));
        Check.refuses("no alloy yet", Given.INDEX, () -> new BowFoundry().parts(0, 0));
        Check.sentence("Promise 12", "or no such metal");
        onlyBetween("metal", Given.INDEX, 0, 2, m -> Given.workshop().parts(0, m));
        Check.sentence("Promise 14", NO_MOULD);
        onlyBetween("mould", Given.INDEX, 0, 0, m -> Given.workshop().mouldLength(m));
        onlyBetween("mould of four", Given.INDEX, 0, 3, m -> sixAlloysFourMoulds().mouldLength(m));
        Check.refuses("no mould yet", Given.INDEX, () -> new BowFoundry().mouldLength(0));
        Check.sentence("Promise 15", NO_MOULD);
        onlyBetween("mould", Given.INDEX, 0, 0, m -> Given.workshop().uses(m));
        onlyBetween("mould of four", Given.INDEX, 0, 3, m -> sixAlloysFourMoulds().uses(m));
        Check.refuses("no mould yet", Given.INDEX, () -> new BowFoundry().uses(0));
        Check.sentence("Promise 16", NO_METAL);
        onlyBetween("metal", Given.INDEX, 0, 2, m -> Given.workshop().stock(m));
        Check.sentence("Promise 11", "Returns the number of alloys.");
        Check.same("most", sixAlloysFourMoulds().alloyCount(), 6);
        Check.sentence("Promise 13", "Returns the number of moulds.");
        Check.same("most", sixAlloysFourMoulds().mouldCount(), 4);
        Check.sentence("Promise 19", "Returns the number of batches that exist.");
        Check.same("none", new BowFoundry().batchCount(), 0);
        Check.same("those that are gone left out", Given.gaps().batchCount(), 3);
        Check.same("most", Given.eightBatches().batchCount(), 8);
    }

    private static void positions() {
        Check.sentence("Promise 20", "Throws NoSuchElementException if there is no such position");
        Check.refuses("nothing there yet", Given.ELEMENT, () -> new BowFoundry().batchAt(0));
        onlyBetween("of one", Given.ELEMENT, 0, 0, p -> Given.batchOf(1).batchAt(p));
        onlyBetween("of three", Given.ELEMENT, 0, 2, p -> Given.gaps().batchAt(p));
        onlyBetween("of eight", Given.ELEMENT, 0, 7, p -> Given.eightBatches().batchAt(p));
        Check.sentence("Promise 20", "position: the position, from 0");
        Check.same("position 0", Given.gaps().batchAt(0), 0);
        Check.same("position 2", Given.gaps().batchAt(2), 4);
        Check.sentence("Promise 20", "sorted by number in ascending order.");
        BowFoundry x = Given.gaps();
        Check.same("first", x.batchAt(0), 0);
        Check.same("second", x.batchAt(1), 3);
        Check.same("third", x.batchAt(2), 4);
        Given.sell(x, 0);
        Check.same("without the first", x.batchAt(0), 3);
        x.cast(0, 0, 1);
        Check.same("a new one", x.batchAt(2), 5);
        x.melt(3);
        x.inspect(5);
        Check.same("the only one", x.batchAt(0), 4);
        Check.refuses("behind the only one", Given.ELEMENT, () -> x.batchAt(1));
    }

    private static void batches() {
        noSuchBatch("Promise 21", x -> b -> x.isFailed(b));
        Check.same("open", Given.gaps().isFailed(0), false);
        Check.same("failed", Given.gaps().isFailed(3), true);
        Check.same("open again", Given.gaps().isFailed(4), false);
        noSuchBatch("Promise 22", x -> b -> x.batchSize(b));
        Check.same("least", Given.batchOf(1).batchSize(0), 1);
        Check.same("greatest", Given.batchOf(9).batchSize(0), 9);
        noSuchBatch("Promise 23", x -> b -> x.firstBow(b));
        Check.same("least", Given.gaps().firstBow(0), 0);
        Check.same("behind gaps", Given.gaps().firstBow(3), 6);
        Check.same("last", Given.gaps().firstBow(4), 8);
    }

    private static void noSuchBow(String promise, Function<BowFoundry, IntFunction<Object>> call) {
        Check.sentence(promise, NO_BOW);
        Check.refuses("nothing there yet", Given.ELEMENT, () -> call.apply(Given.workshop()).apply(0));
        BowFoundry x = Given.gaps();
        for (int there : new int[] {0, 1, 6, 7, 8, 9}) {
            Check.answers("bow " + there, () -> call.apply(x).apply(there));
        }
        int[] gone = {-1, 2, 3, 4, 5, 10, 11, 100, Integer.MIN_VALUE, Integer.MAX_VALUE};
        for (int bow : gone) {
            Check.refuses("bow " + bow, Given.ELEMENT, () -> call.apply(x).apply(bow));
        }
        BowFoundry y = Given.batchOf(9);
        Check.answers("the ninth", () -> call.apply(y).apply(8));
        Check.refuses("behind the ninth", Given.ELEMENT, () -> call.apply(y).apply(9));
    }

    private static void bows() {
        noSuchBow("Promise 24", x -> b -> x.squeak(b));
        BowFoundry x = Given.gaps();
        Check.same("first", x.squeak(0), 12);
        Check.same("behind gaps", x.squeak(6), 90);
        Check.same("last", x.squeak(9), 29);
        noSuchBow("Promise 25", y -> b -> y.isGood(b));
        x.setTolerance(29);
        Check.same("at the tolerance", x.isGood(9), true);
        x.setTolerance(28);
        Check.same("above the tolerance", x.isGood(9), false);
        noSuchBow("Promise 26", y -> b -> y.batchOf(b));
        int[] bows = {0, 1, 6, 7, 8, 9};
        int[] batches = {0, 0, 3, 3, 4, 4};
        for (int i = 0; i < bows.length; i++) {
            Check.same("of bow " + bows[i], x.batchOf(bows[i]), batches[i]);
        }
    }

    private static void samples() {
        noSuchBatch("Promise 27", x -> b -> x.goodBows(b));
        Check.sentence("Promise 27", "all of its bows considered.");
        int[] tolerances = {0, 2, 3, 11, 12, 50, 89, 90, 99};
        int[] good = {0, 0, 1, 1, 2, 5, 8, 9, 9};
        for (int step = 1; step <= 5; step++) {
            BowFoundry x = Given.batchOf(9);
            x.setStep(step);
            for (int i = 0; i < tolerances.length; i++) {
                x.setTolerance(tolerances[i]);
                Check.same("good with " + tolerances[i], x.goodBows(0), good[i]);
            }
        }
        noSuchBatch("Promise 28", x -> b -> x.sampleSize(b));
        Check.sentence("Promise 28", "would be sampled with the present step.");
        int[][] sizes = {{1, 2, 3, 4, 5, 6, 7, 8, 9}, {1, 1, 2, 2, 3, 3, 4, 4, 5}, {1, 1, 1, 2, 2, 2, 3, 3, 3},
            {1, 1, 1, 1, 2, 2, 2, 2, 3}, {1, 1, 1, 1, 1, 2, 2, 2, 2}};
        for (int bows = 1; bows <= 9; bows++) {
            BowFoundry x = Given.batchOf(bows);
            for (int step = 1; step <= 5; step++) {
                x.setStep(step);
                Check.same(bows + " by " + step, x.sampleSize(0), sizes[step - 1][bows - 1]);
            }
        }
    }

    private static void predictions() {
        noSuchBatch("Promise 29", x -> b -> x.wouldPass(b));
        Check.sentence("Promise 29", "A failed batch is considered as if it was open.");
        BowFoundry x = Given.batchOf(9);
        Given.fail(x, 0);
        Check.same("failed, tolerance 0", x.wouldPass(0), false);
        x.setTolerance(37);
        Check.same("failed, just not", x.wouldPass(0), false);
        x.setTolerance(38);
        Check.same("failed, just so", x.wouldPass(0), true);
        Check.same("still failed", x.isFailed(0), true);
        x.setStep(5);
        Check.same("by the present step", x.wouldPass(0), false);
        x.setTolerance(77);
        Check.same("just so by the present step", x.wouldPass(0), true);
        BowFoundry y = Given.batchOf(9);
        Check.same("open", y.wouldPass(0), true);
        Check.same("still open", y.isFailed(0) + " " + y.soldTotal(), "false 0");
    }

    private static void neededTolerances() {
        noSuchBatch("Promise 30", x -> b -> x.neededTolerance(b));
        noSuchBatch("Promise 31", x -> b -> x.neededToleranceByTrying(b));
        Check.sentence("Promise 30", "Returns the smallest tolerance with which a batch would pass, with the present");
        needed((x, b) -> x.neededTolerance(b));
        Check.sentence("Promise 31", "found by trying tolerances in ascending order.");
        needed((x, b) -> x.neededToleranceByTrying(b));
    }

    private static void needed(BiFunction<BowFoundry, Integer, Object> needed) {
        int[] least = {12, 25, 25, 38, 38, 51, 51, 51, 38};
        for (int bows = 1; bows <= 9; bows++) {
            BowFoundry x = Given.batchOf(bows);
            x.setStep(1);
            Check.same("of " + bows, needed.apply(x, 0), least[bows - 1]);
        }
        int[] bySteps = {38, 38, 51, 16, 77};
        BowFoundry x = Given.batchOf(9);
        for (int step = 1; step <= 5; step++) {
            x.setStep(step);
            Check.same("by step " + step, needed.apply(x, 0), bySteps[step - 1]);
        }
        x.setTolerance(0);
        Check.same("whatever the tolerance", needed.apply(x, 0), 77);
        x.inspect(0);
        Check.same("of a failed one", needed.apply(x, 0), 77);
        BowFoundry lowest = Given.foundry(0, 5, 0, 9, 5);
        lowest.cast(0, 0, 1);
        Check.same("least", needed.apply(lowest, 0), 0);
        BowFoundry highest = Given.foundry(4, 6, 0, 1, 6);
        highest.cast(0, 0, 1);
        Check.same("greatest", needed.apply(highest, 0), 99);
        BowFoundry below = Given.foundry(0, 6, 9, 1, 9);
        below.cast(0, 0, 1);
        Check.same("one below the greatest", needed.apply(below, 0), 98);
    }

    private static void nextSqueaks() {
        Check.sentence("Promise 32", NO_ALLOY);
        onlyBetween("alloy", Given.INDEX, 0, 0, a -> Given.workshop().nextSqueak(a, 0));
        onlyBetween("alloy of six", Given.INDEX, 0, 5, a -> sixAlloysFourMoulds().nextSqueak(a, 3));
        Check.refuses("no alloy yet", Given.INDEX, () -> withMould().nextSqueak(0, 0));
        Check.sentence("Promise 32", "or no such mould");
        onlyBetween("mould", Given.INDEX, 0, 0, m -> Given.workshop().nextSqueak(0, m));
        onlyBetween("mould of four", Given.INDEX, 0, 3, m -> sixAlloysFourMoulds().nextSqueak(5, m));
        Check.refuses("no mould yet", Given.INDEX, () -> withAlloy(1, 1, 1).nextSqueak(0, 0));
        Check.sentence("Promise 32", "also if the mould has 20 uses.");
        BowFoundry x = Given.usedUp();
        Check.same("20 uses", x.nextSqueak(0, 0), 72);
        x.renewMould(0);
        Check.same("renewed", x.nextSqueak(0, 0), 12);
        BowFoundry y = Given.workshop();
        for (int i = 0; i < 8; i++) {
            Check.same("bow " + i, y.nextSqueak(0, 0), Given.SQUEAKS[i]);
            y.cast(0, 0, 1);
        }
        Check.same("with eight batches", y.nextSqueak(0, 0), 16);
        Check.same("without metal", Given.foundry(1, 0, 0, 1, 0).nextSqueak(0, 0), 12);
    }

    private static BowFoundry withMould() {
        BowFoundry x = new BowFoundry();
        x.addMould(1);
        return x;
    }

    private static BowFoundry withAlloy(int copper, int tin, int silver) {
        BowFoundry x = new BowFoundry();
        x.addAlloy(copper, tin, silver);
        return x;
    }

    private static void possibleBows() {
        Check.sentence("Promise 33", NO_ALLOY);
        onlyBetween("alloy", Given.INDEX, 0, 0, a -> Given.workshop().possibleBows(a));
        onlyBetween("alloy of six", Given.INDEX, 0, 5, a -> sixAlloysFourMoulds().possibleBows(a));
        Check.refuses("no alloy yet", Given.INDEX, () -> new BowFoundry().possibleBows(0));
        Check.sentence("Promise 33", "with the metals in the store, whatever the moulds allow.");
        for (int metal = 0; metal < 3; metal++) {
            BowFoundry x = withAlloy(metal == 0 ? 1 : 0, metal == 1 ? 1 : 0, metal == 2 ? 1 : 0);
            Check.same("nothing in the store", x.possibleBows(0), 0);
            x.buy((metal + 1) % 3, 99);
            Check.same("only other metals", x.possibleBows(0), 0);
            Given.buyAll(x, metal, 999);
            Check.same("without moulds", x.possibleBows(0), 999);
        }
        Check.same("in a mould with 20 uses", Given.usedUp().possibleBows(0), 79);
        Check.same("with eight batches", Given.eightBatches().possibleBows(0), 91);
        BowFoundry y = withAlloy(9, 9, 9);
        for (int metal = 0; metal < 3; metal++) {
            Given.buyAll(y, metal, 81);
        }
        Check.same("just nine", y.possibleBows(0), 9);
        BowFoundry z = withAlloy(9, 9, 9);
        Given.buyAll(z, 0, 81);
        Given.buyAll(z, 1, 81);
        Given.buyAll(z, 2, 80);
        Check.same("one gram short of nine", z.possibleBows(0), 8);
    }

    private static void metals() {
        Check.sentence("Promise 34", NO_METAL);
        onlyBetween("metal", Given.INDEX, 0, 2, m -> Given.batchOf(9).metalInBatches(m));
        Check.sentence("Promise 35", NO_METAL);
        onlyBetween("metal", Given.INDEX, 0, 2, m -> Given.batchOf(9).metalByAccounts(m));
        Check.sentence("Promise 40", NO_METAL);
        onlyBetween("metal", Given.INDEX, 0, 2, m -> Given.batchOf(9).lostGrams(m));
        Check.sentence("Promise 34", "in the bows of all batches that exist, added bow by bow.");
        inBatches((x, m) -> x.metalInBatches(m));
        Check.sentence("Promise 35", "Returns the same number as metalInBatches, computed from the accounts");
        inBatches((x, m) -> x.metalByAccounts(m));
        Check.sentence("Promise 40", "Returns the grams of a metal that have been lost so far.");
        BowFoundry y = Given.gaps();
        Check.same("one batch melted", y.lostGrams(0), 2);
        y.melt(3);
        Check.same("two batches melted", y.lostGrams(0), 4);
        Check.same("no tin", y.lostGrams(1), 0);
        y.undo();
        Check.same("undone", y.lostGrams(0), 2);
        Check.same("nothing yet", new BowFoundry().lostGrams(2), 0);
    }

    private static void inBatches(BiFunction<BowFoundry, Integer, Object> grams) {
        BowFoundry x = Given.foundry(9, 1, 0, 1, 162);
        int[] parts = {9, 1, 0};
        for (int metal = 0; metal < 3; metal++) {
            Check.same("nothing there yet", grams.apply(x, metal), 0);
        }
        x.cast(0, 0, 9);
        x.cast(0, 0, 1);
        Given.fail(x, 1);
        for (int metal = 0; metal < 3; metal++) {
            Check.same("open and failed", grams.apply(x, metal), 10 * parts[metal]);
        }
        x.melt(1);
        for (int metal = 0; metal < 3; metal++) {
            Check.same("one melted", grams.apply(x, metal), 9 * parts[metal]);
        }
        x.buy(0, 99);
        Given.sell(x, 0);
        for (int metal = 0; metal < 3; metal++) {
            Check.same("all gone", grams.apply(x, metal), 0);
        }
    }

    private static void ranks() {
        Check.sentence("Promise 36", "Throws NoSuchElementException if there is no such rank");
        Check.refuses("nothing there yet", Given.ELEMENT, () -> new BowFoundry().batchBySqueak(0));
        onlyBetween("of one", Given.ELEMENT, 0, 0, r -> Given.batchOf(1).batchBySqueak(r));
        onlyBetween("of three", Given.ELEMENT, 0, 2, r -> Given.gaps().batchBySqueak(r));
        onlyBetween("of eight", Given.ELEMENT, 0, 7, r -> Given.eightBatches().batchBySqueak(r));
        Check.sentence("Promise 36", "rank: the rank, counted from 0");
        Check.same("rank 0", Given.eightBatches().batchBySqueak(0), 7);
        Check.same("rank 7", Given.eightBatches().batchBySqueak(7), 6);
        Check.sentence("Promise 36", "sorted by the sum of the squeaks of their bows in ascending order");
        ranked(Given.eightBatches(), 7, 0, 1, 2, 3, 4, 5, 6);
        BowFoundry x = Given.batchOf(2);
        x.cast(0, 0, 1);
        x.cast(0, 0, 3);
        ranked(x, 0, 1, 2);
        x.setStep(5);
        x.setTolerance(0);
        x.inspect(0);
        ranked(x, 0, 1, 2);
        Check.sentence("Promise 36", "then by number in ascending order.");
        BowFoundry y = Given.workshop();
        for (int i = 0; i < 8; i++) {
            y.renewMould(0);
            y.cast(0, 0, i % 2 + 1);
        }
        ranked(y, 0, 2, 4, 6, 1, 3, 5, 7);
        Given.sell(y, 2);
        Given.sell(y, 1);
        y.renewMould(0);
        y.cast(0, 0, 1);
        ranked(y, 0, 4, 6, 8, 3, 5, 7);
        BowFoundry z = Given.batchOf(1);
        z.addAlloy(0, 0, 4);
        z.addAlloy(0, 0, 2);
        z.addMould(1);
        z.addMould(2);
        z.cast(1, 1, 1);
        z.cast(2, 2, 1);
        Check.same("one above the others", Given.batchText(z, 0) + " " + Given.batchText(z, 1) + " "
                + Given.batchText(z, 2), "0?:12 1?:17 2?:16");
        ranked(z, 0, 2, 1);
    }

    private static void ranked(BowFoundry x, int... batches) {
        for (int rank = 0; rank < batches.length; rank++) {
            Check.same("rank " + rank, x.batchBySqueak(rank), batches[rank]);
        }
        Check.refuses("behind the last", Given.ELEMENT, () -> x.batchBySqueak(batches.length));
    }

    private static void totals() {
        Check.sentence("Promise 37", "Returns how many bows have been cast so far.");
        Check.same("none yet", new BowFoundry().castTotal(), 0);
        Check.same("sold and melted ones too", Given.gaps().castTotal(), 10);
        Check.sentence("Promise 38", "Returns how many bows have been sold so far.");
        Check.same("none yet", new BowFoundry().soldTotal(), 0);
        Check.same("neither failed nor melted", Given.gaps().soldTotal(), 2);
        Check.sentence("Promise 39", "Returns how many bows have been melted so far.");
        Check.same("none yet", new BowFoundry().meltedTotal(), 0);
        Check.same("neither failed nor sold", Given.gaps().meltedTotal(), 2);
        BowFoundry x = Given.batchOf(9);
        Given.sell(x, 0);
        x.cast(0, 0, 9);
        Given.fail(x, 1);
        x.melt(1);
        Check.same("nine of each", x.castTotal() + " " + x.soldTotal() + " " + x.meltedTotal(), "18 9 9");
        x.undo();
        Check.same("melted undone", x.castTotal() + " " + x.soldTotal() + " " + x.meltedTotal(), "18 9 0");
        Check.sentence("Promise 17", "Returns the tolerance.");
        Check.same("after a sale", Given.gaps().tolerance(), 50);
        Check.sentence("Promise 18", "Returns the step.");
        Check.same("as at first", Given.gaps().step(), 2);
    }

    private static void means() {
        Check.sentence("Promise 41", "Throws ArithmeticException if there are no such bows");
        Check.refuses("none yet", Given.ARITHMETIC, () -> new BowFoundry().meanSqueak());
        BowFoundry x = Given.batchOf(1);
        Check.same("one", x.meanSqueak(), 12.0);
        Given.sell(x, 0);
        Check.refuses("sold", Given.ARITHMETIC, () -> x.meanSqueak());
        x.cast(0, 0, 1);
        Given.fail(x, 1);
        Check.same("a failed one", x.meanSqueak(), 25.0);
        x.melt(1);
        Check.refuses("melted", Given.ARITHMETIC, () -> x.meanSqueak());
        x.undo();
        Check.same("melted undone", x.meanSqueak(), 25.0);
        Check.sentence("Promise 41", "the sum divided by the number of bows, both converted to double.");
        Check.same("two", Given.batchOf(2).meanSqueak(), 18.5);
        Check.same("seven", Given.batchOf(7).meanSqueak(), 357.0 / 7.0);
        Check.same("eight", Given.batchOf(8).meanSqueak(), 45.0);
        Check.same("nine", Given.batchOf(9).meanSqueak(), 376.0 / 9.0);
        Check.same("a third", Given.gaps().meanSqueak(), 175.0 / 6.0);
        BowFoundry none = Given.foundry(0, 5, 0, 9, 5);
        none.cast(0, 0, 1);
        Check.same("squeak 0", none.meanSqueak(), 0.0);
    }

    private static void shares() {
        Check.sentence("Promise 42", "Throws ArithmeticException if no bow has been cast");
        Check.refuses("none yet", Given.ARITHMETIC, () -> Given.workshop().soldShare());
        BowFoundry x = Given.batchOf(3);
        Check.same("none sold", x.soldShare(), 0.0f);
        x.undo();
        Check.refuses("cast undone", Given.ARITHMETIC, () -> x.soldShare());
        x.cast(0, 0, 3);
        Given.sell(x, 0);
        Check.same("all sold", x.soldShare(), 1.0f);
        Check.sentence("Promise 42", "Returns the quotient of soldTotal and castTotal, both converted to float.");
        x.cast(0, 0, 6);
        Check.same("a third", x.soldShare(), 3.0f / 9.0f);
        x.cast(0, 0, 1);
        Check.same("three tenths", x.soldShare(), 3.0f / 10.0f);
        Check.same("a fifth", Given.gaps().soldShare(), 2.0f / 10.0f);
    }

    private static void consistency() {
        Check.sentence("Promise 43", "Returns true if all of this holds.");
        List<Supplier<BowFoundry>> all = List.of(BowFoundry::new, Given::workshop, Given::eightBatches,
                Given::usedUp, Given::gaps, PromiseBounds::sixAlloysFourMoulds);
        for (Supplier<BowFoundry> made : all) {
            BowFoundry x = made.get();
            for (int step = 1; step <= 5; step++) {
                x.setStep(step);
                Check.same("by step " + step, x.isConsistent(), true);
            }
            for (int i = 0; i < 5; i++) {
                x.undo();
                Check.same("undone", x.isConsistent(), true);
            }
        }
        BowFoundry y = Given.foundry(4, 6, 0, 1, 99);
        y.cast(0, 0, 9);
        Given.fail(y, 0);
        Check.same("needed tolerance 99", y.isConsistent(), true);
        y.melt(0);
        Check.same("nothing left", y.isConsistent(), true);
    }

    private static void batchTexts() {
        noSuchBatch("Promise 44", x -> b -> x.renderBatch(b));
        Check.sentence("Promise 44", "Replaces the output text by a description of a batch: the number, \"?\" if it is "
                + "open or \"!\" if it is failed");
        Check.same("open", Given.batchText(Given.gaps(), 4), "4?:16,29");
        Check.same("failed", Given.batchText(Given.gaps(), 3), "3!:90,3");
        Check.same("one bow", Given.batchText(Given.batchOf(1), 0), "0?:12");
        Check.same("nine bows", Given.batchText(Given.batchOf(9), 0), "0?:12,25,38,51,64,77,90,3,16");
        BowFoundry x = Given.eightBatches();
        x.setTolerance(99);
        for (int i = 0; i < 8; i++) {
            x.inspect(i);
        }
        x.cast(0, 0, 1);
        x.cast(0, 0, 1);
        x.cast(0, 0, 2);
        Check.same("a number of two digits", Given.batchText(x, 10), "10?:42,55");
        Check.sentence("Promise 44", "Returns the length of the output text.");
        Check.same("shortest", Given.batchOf(1).renderBatch(0), 5);
        Check.same("longest of a workshop", Given.batchOf(9).renderBatch(0), 28);
        BowFoundry none = Given.foundry(0, 5, 0, 9, 5);
        none.cast(0, 0, 1);
        Check.same("squeak 0", none.renderBatch(0), 4);
    }

    private static void storeTexts() {
        Check.sentence("Promise 45", "and for each mould a space, its length, \"x\" and its uses, as in \"c12t0s990 "
                + "25x3 8x20\".");
        BowFoundry x = new BowFoundry();
        Check.same("nothing there yet", Given.storeText(x), "c0t0s0");
        BowFoundry y = Given.foundry(1, 0, 0, 25, 35);
        y.addMould(8);
        Given.buyAll(y, 2, 955);
        y.cast(0, 0, 3);
        y.cast(0, 1, 9);
        y.cast(0, 1, 9);
        y.cast(0, 1, 2);
        y.addAlloy(0, 7, 0);
        y.cast(1, 0, 5);
        y.renewMould(0);
        y.buy(0, 3);
        y.cast(0, 0, 3);
        Check.same("as in the document", Given.storeText(y), "c12t0s990 25x3 8x20");
        Check.same("its length", y.renderStore(), 19);
        Check.same("four moulds", Given.storeText(sixAlloysFourMoulds()), "c99t99s99 1x0 10x0 20x0 30x0");
        Check.same("least length", x.renderStore(), 6);
    }

    private static void outputs() {
        Check.sentence("Promise 46", "Returns a character of the output text, which is empty initially.");
        onlyNone("initially", new BowFoundry());
        onlyNone("initially, with a batch", Given.batchOf(1));
        Check.sentence("Promise 46", "Throws IndexOutOfBoundsException if there is no such index");
        BowFoundry x = Given.batchOf(9);
        x.renderBatch(0);
        onlyBetween("of 28", Given.INDEX, 0, 27, i -> x.outputAt(i));
        x.renderStore();
        onlyBetween("of 13", Given.INDEX, 0, 12, i -> x.outputAt(i));
        Check.refuses("no batch", Given.ELEMENT, () -> x.renderBatch(1));
        onlyBetween("of the same 13", Given.INDEX, 0, 12, i -> x.outputAt(i));
        Check.same("first", x.outputAt(0), 'c');
        Check.same("last", x.outputAt(12), '9');
    }

    private static void onlyNone(String what, BowFoundry x) {
        for (int index : new int[] {-1, 0, 1, Integer.MIN_VALUE, Integer.MAX_VALUE}) {
            Check.refuses(what, Given.INDEX, () -> x.outputAt(index));
        }
    }

    private static void typing() {
        Check.sentence("Promise 47", "Throws IllegalArgumentException if the character code is not between 32 and 126");
        for (int code = 0; code < 65536; code++) {
            BowFoundry x = new BowFoundry();
            char character = (char) code;
            String due = code >= 32 && code <= 126 ? "1" : "throws.IllegalArgumentException";
            Check.same("code " + code, Check.outcome(() -> x.type(character)), due);
        }
        Check.sentence("Promise 47", "Throws IllegalStateException if the script buffer has 60 characters");
        BowFoundry x = new BowFoundry();
        for (int i = 1; i <= 60; i++) {
            Check.same("length", x.type('s'), i);
        }
        Check.refuses("61st", Given.STATE, () -> x.type('s'));
        Check.refuses("61st again", Given.STATE, () -> x.type(';'));
        Check.outcome(() -> x.runScript());
        Check.same("room again", x.type('s'), 1);
    }

    private static void scripts() {
        Check.sentence("Promise 48", "The buffer is empty afterwards, also if an exception is thrown.");
        String[] scripts = {"step 1", "step 0", "stop", ""};
        String[] outcomes = {"1", "throws.IllegalStateException", "throws.IllegalArgumentException",
            "throws.IllegalArgumentException"};
        for (int i = 0; i < scripts.length; i++) {
            BowFoundry x = new BowFoundry();
            Check.same(scripts[i], Given.outcomeOf(x, scripts[i]), outcomes[i]);
            Check.same("places after " + scripts[i], View.places(x), 60);
        }
        Check.sentence("Promise 48", "Returns the number of commands.");
        Check.same("least", Given.outcomeOf(new BowFoundry(), "limit 12"), "1");
        Check.same("most", Given.outcomeOf(new BowFoundry(), "step 1;step 1;step 1;step 1;step 1;step 1;step 1;step 1"),
                "8");
        Check.sentence("Promise 48", "Throws IllegalArgumentException if the script does not have the required form; "
                + "errorPosition then returns its error position");
        BowFoundry empty = new BowFoundry();
        Check.refuses("nothing typed", Given.ARGUMENT, () -> empty.runScript());
        Check.same("its error", empty.errorPosition(), 0);
        Check.same("wrong at the end", Given.outcomeOf(empty, "step 1x"), "throws.IllegalArgumentException");
        Check.same("error at the end", empty.errorPosition(), 6);
        Check.same("nothing done", empty.step(), 2);
        Check.sentence("Promise 48", "Throws IllegalStateException if the method for a command throws an exception; no "
                + "command takes effect, and failedCommand then returns the index of that command");
        eachMethodThrows();
    }

    /** One command for each exception of each method, behind one that is well. */
    private static void eachMethodThrows() {
        String[] refused = {"alloy 000", "mould 0", "mould 51", "mould 99", "buy 3 1", "buy 9 99", "buy 0 0",
            "buy 0 00", "cast 1 0 1", "cast 0 1 1", "cast 9 9 9", "cast 0 0 0", "test 99", "melt 5", "melt 0",
            "test 1", "renew 1", "renew 9", "step 0", "step 6", "step 9"};
        for (String command : refused) {
            BowFoundry x = Given.batchOf(2);
            String before = View.state(x);
            Check.same(command, Given.outcomeOf(x, "limit 7;" + command), "throws.IllegalStateException");
            Check.same("index of " + command, x.failedCommand(), 1);
            Check.same("state after " + command, View.state(x), before);
            Check.same(command + " first", Given.outcomeOf(x, command), "throws.IllegalStateException");
            Check.same("index of the first " + command, x.failedCommand(), 0);
        }
        throwsIn(Given.gaps(), "test 3");
        throwsIn(sixAlloysFourMoulds(), "alloy 111");
        throwsIn(sixAlloysFourMoulds(), "mould 1");
        throwsIn(Given.eightBatches(), "cast 0 0 1");
        throwsIn(Given.usedUp(), "cast 0 0 1");
        throwsIn(Given.foundry(1, 1, 1, 1, 0), "cast 0 0 1");
        throwsIn(Given.foundry(1, 1, 1, 1, 999), "buy 0 1");
        Check.same("cast, then refused", Given.outcomeOf(Given.usedUp(), "renew 0;cast 0 0 9;cast 0 0 9;cast 0 0 2"),
                "4");
    }

    private static void throwsIn(BowFoundry x, String command) {
        String before = View.state(x);
        Check.same(command, Given.outcomeOf(x, "limit 7;" + command), "throws.IllegalStateException");
        Check.same("index of " + command, x.failedCommand(), 1);
        Check.same("state after " + command, View.state(x), before);
    }

    private static void errorPositions() {
        Check.sentence("Promise 49", "Throws NoSuchElementException if there was no such script");
        BowFoundry x = new BowFoundry();
        Check.refuses("no script yet", Given.ELEMENT, () -> x.errorPosition());
        Given.run(x, "step 1");
        Check.refuses("a good script", Given.ELEMENT, () -> x.errorPosition());
        Given.outcomeOf(x, "step 0");
        Check.refuses("a failing script", Given.ELEMENT, () -> x.errorPosition());
        Check.type(x, "stop");
        Check.refuses("a wrong one that has not run", Given.ELEMENT, () -> x.errorPosition());
        Check.sentence("Promise 49", "Returns the error position of the latest script that did not have the required "
                + "form.");
        Check.refuses("wrong", Given.ARGUMENT, () -> x.runScript());
        Check.same("first", x.errorPosition(), 2);
        Given.run(x, "step 1");
        Check.same("after a good script", x.errorPosition(), 2);
        Given.outcomeOf(x, "step 1;step 0");
        Check.same("after a failing script", x.errorPosition(), 2);
        Given.outcomeOf(x, "");
        Check.same("least", x.errorPosition(), 0);
        Given.outcomeOf(x, "limit 12;limit 12;limit 12;limit 12;limit 12;limit 12;alloy ");
        Check.same("greatest", x.errorPosition(), 60);
        Given.outcomeOf(x, "m");
        Check.same("latest", x.errorPosition(), 1);
    }

    private static void failedCommands() {
        Check.sentence("Promise 50", "Throws NoSuchElementException if there was no such script");
        BowFoundry x = new BowFoundry();
        Check.refuses("no script yet", Given.ELEMENT, () -> x.failedCommand());
        Given.run(x, "step 1");
        Check.refuses("a good script", Given.ELEMENT, () -> x.failedCommand());
        Given.outcomeOf(x, "step 0;stop");
        Check.refuses("a wrong script", Given.ELEMENT, () -> x.failedCommand());
        Check.refuses("a call that throws", Given.ARGUMENT, () -> x.setStep(0));
        Check.refuses("no script", Given.ELEMENT, () -> x.failedCommand());
        Check.sentence("Promise 50", "Returns the index of the command that failed in the latest script with a failed "
                + "command.");
        Given.outcomeOf(x, "step 1;step 1;step 1;step 1;step 1;step 1;step 1;step 0");
        Check.same("greatest", x.failedCommand(), 7);
        Given.run(x, "step 1;step 2");
        Check.same("after a good script", x.failedCommand(), 7);
        Given.outcomeOf(x, "stop");
        Check.same("after a wrong script", x.failedCommand(), 7);
        Given.outcomeOf(x, "step 0;step 0;step 0");
        Check.same("latest, and the first of three", x.failedCommand(), 0);
        Given.outcomeOf(x, "step 1;step 0;step 0");
        Check.same("latest again", x.failedCommand(), 1);
        Check.sentence("Promise 50", "Returns the index of the command, counted from 0.");
        String script = "step 0";
        for (int index = 0; index < 8; index++) {
            BowFoundry y = new BowFoundry();
            Given.outcomeOf(y, script);
            Check.same("behind " + index, y.failedCommand(), index);
            script = "step 1;" + script;
        }
    }

    private static void undos() {
        Check.sentence("Promise 51", "Throws IllegalStateException if there is nothing to undo");
        BowFoundry x = new BowFoundry();
        Check.refuses("nothing yet", Given.STATE, () -> x.undo());
        x.setStep(5);
        Check.same("one change", x.undo(), 0);
        Check.refuses("it is undone", Given.STATE, () -> x.undo());
        Check.refuses("twice", Given.STATE, () -> x.undo());
        x.setStep(4);
        Check.same("a later change", x.undo(), 0);
        Check.same("step", x.step(), 2);
        Check.sentence("Promise 51", "Returns the number of changes that can still be undone.");
        BowFoundry y = new BowFoundry();
        for (int i = 0; i < 9; i++) {
            y.setStep(i % 5 + 1);
        }
        for (int left = 7; left >= 0; left--) {
            Check.same("left", y.undo(), left);
            Check.same("step before", y.step(), left % 5 + 1);
        }
        Check.refuses("the ninth", Given.STATE, () -> y.undo());
        Check.sentence("Promise 51", "Undoes the latest change that has not been undone.");
        y.setStep(5);
        y.setStep(4);
        Check.same("latest", y.undo() + " " + y.step(), "1 5");
        y.setStep(3);
        Check.same("a later one", y.undo() + " " + y.step(), "1 5");
        Check.same("the one before", y.undo() + " " + y.step(), "0 1");
    }

    private static void snapshots() {
        Check.sentence("Promise 53", "Throws IllegalStateException if there is no snapshot");
        BowFoundry x = Given.batchOf(1);
        Check.refuses("none yet", Given.STATE, () -> x.restore());
        Check.same("a refused one leaves the past", x.undo(), 5);
        Check.sentence("Promise 52", "Returns the number of batches that exist.");
        Check.same("none", x.save(), 0);
        Check.same("eight", Given.eightBatches().save(), 8);
        Check.same("with gaps", Given.gaps().save(), 3);
        Check.sentence("Promise 52", "Takes a snapshot, which replaces an earlier one.");
        BowFoundry y = Given.batchOf(1);
        y.save();
        y.cast(0, 0, 1);
        y.save();
        y.cast(0, 0, 1);
        Check.same("the later one", y.restore(), 2);
        Check.same("bows", y.castTotal(), 2);
        Check.sentence("Promise 53", "Restores the snapshot, which is kept.");
        for (int i = 0; i < 3; i++) {
            Given.sell(y, 0);
            y.cast(0, 0, 3);
            y.addMould(7);
            Check.same("kept", y.restore(), 2);
            Check.same("as it was", Given.storeText(y) + " " + Given.batchText(y, 0), "c97t99s99 1x2 0?:12");
        }
        Check.sentence("Promise 53", "Afterwards there is nothing to undo.");
        Check.refuses("nothing", Given.STATE, () -> y.undo());
        for (int i = 0; i < 9; i++) {
            y.setTolerance(i);
        }
        Check.same("changes after it", y.undo(), 7);
        y.restore();
        Check.refuses("nothing again", Given.STATE, () -> y.undo());
        y.setTolerance(7);
        Check.same("one change after it", y.undo(), 0);
        Check.same("back at the snapshot", y.tolerance(), 50);
        Check.sentence("Promise 53", "Returns the number of batches that exist.");
        BowFoundry z = new BowFoundry();
        z.save();
        Given.run(z, "alloy 100;mould 1;buy 0 9;cast 0 0 1");
        Check.same("none", z.restore(), 0);
        BowFoundry eight = Given.eightBatches();
        eight.save();
        Given.sell(eight, 0);
        Check.same("eight", eight.restore(), 8);
    }
}
