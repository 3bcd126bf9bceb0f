/** The sentences of the Terms about metals, alloys, moulds, bows, batches, inspection and melting. */
final class TermBounds {
    private static final String ALLOYS = "Metals and alloys";
    private static final String MOULDS = "Moulds";
    private static final String BOWS = "Bows and squeaks";
    private static final String BATCHES = "Batches and inspection";
    private static final String MELTING = "Melting";

    private TermBounds() {
    }

    static void test() {
        atMost512Calls();
        divisionsRoundDown();
        threeMetals();
        stockIsInitially0();
        atMost6Alloys();
        partsFrom0To9();
        unitsTimesParts();
        atMost4Moulds();
        lengthOf1To50();
        eachBowUsesTheMouldOnce();
        mouldWith20Uses();
        bowTakesOneUnit();
        bowsAreNumbered();
        squeakModulo100();
        squeakCountsUsesBefore();
        batchIsOneCast();
        atMost8Batches();
        batchIsOpenWhenCast();
        toleranceFrom0To99();
        goodIsAtMostTheTolerance();
        everyKthBow();
        stepFrom1To5();
        moreThanHalf();
        soldBowsAreGone();
        otherwiseFailed();
        onlyFailedIsMelted();
        oneGramLess();
        whatIsLost();
        stockAbove999();
        meltedBatchIsGone();
    }

    /** The foundry is made by 5 calls, a script takes one call for each character and one to run. */
    private static void atMost512Calls() {
        Check.sentence("What it is", "An object is used for at most 512 calls after it has been made");
        BowFoundry x = Given.foundry(1, 0, 0, 1, 9);
        int calls = 5;
        for (int round = 0; round < 7; round++) {
            String script = "limit 99;renew 0;cast 0 0 1;test " + round + ";buy 0 1";
            Check.same("round " + round, Given.run(x, script), 5);
            calls += script.length() + 1;
        }
        while (calls < 509) {
            calls++;
            Check.same("call " + calls, x.setTolerance(99), 99);
        }
        Check.same("510th call", x.stock(0), 9);
        Check.same("511th call", x.soldTotal(), 7);
        Check.same("512th call", x.undo(), 7);
    }

    private static void divisionsRoundDown() {
        Check.sentence("Terms", "All integer divisions round down.");
        int[] possible = {0, 0, 0, 1, 1, 1, 2};
        for (int grams = 0; grams <= 6; grams++) {
            Check.same(grams + " / 3", Given.foundry(3, 0, 0, 1, grams).possibleBows(0), possible[grams]);
        }
        BowFoundry full = Given.foundry(9, 7, 1, 1, 98);
        Check.same("98 / 9", full.possibleBows(0), 10);
        full.buy(0, 99);
        Check.same("98 / 7", full.possibleBows(0), 14);
    }

    private static void threeMetals() {
        Check.sentence(ALLOYS, "There are the metals copper, tin and silver, with the indices 0, 1 and 2.");
        BowFoundry x = new BowFoundry();
        x.addAlloy(4, 5, 6);
        x.buy(0, 1);
        x.buy(1, 2);
        x.buy(2, 3);
        Check.same("in order", Given.storeText(x), "c1t2s3");
        Check.same("parts in order", x.parts(0, 0) * 100 + x.parts(0, 1) * 10 + x.parts(0, 2), 456);
        Check.refuses("none below copper", Given.INDEX, () -> x.stock(-1));
        Check.refuses("none above silver", Given.INDEX, () -> x.stock(3));
    }

    private static void stockIsInitially0() {
        Check.sentence(ALLOYS, "The store has a stock of each metal in grams, initially 0.");
        for (int metal = 0; metal < 3; metal++) {
            BowFoundry x = new BowFoundry();
            Check.same("stock " + metal, x.stock(metal), 0);
            Check.same("first gram " + metal, x.buy(metal, 1), 1);
        }
    }

    private static void atMost6Alloys() {
        Check.sentence(ALLOYS, "At most 6 alloys have the indices 0 to n - 1 in the order in which they were added; "
                + "alloys are never removed.");
        BowFoundry x = new BowFoundry();
        Check.same("none yet", x.alloyCount(), 0);
        for (int i = 0; i < 6; i++) {
            Check.same("added", x.addAlloy(i + 1, 0, 9 - i), i);
            Check.same("count", x.alloyCount(), i + 1);
        }
        Check.refuses("seventh", Given.STATE, () -> x.addAlloy(1, 1, 1));
        for (int i = 0; i < 6; i++) {
            Check.same("copper of " + i, x.parts(i, 0), i + 1);
            Check.same("silver of " + i, x.parts(i, 2), 9 - i);
        }
        Check.refuses("before the first", Given.INDEX, () -> x.parts(-1, 0));
        Check.refuses("behind the last", Given.INDEX, () -> x.parts(6, 0));
        Check.same("never removed", Given.gaps().alloyCount(), 1);
    }

    private static void partsFrom0To9() {
        Check.sentence(ALLOYS, "a number of parts from 0 to 9 of each metal, with at least 1 part in all.");
        int[][] allowed = {{1, 0, 0}, {0, 1, 0}, {0, 0, 1}, {9, 0, 0}, {0, 9, 0}, {0, 0, 9}, {9, 9, 9}};
        for (int[] p : allowed) {
            BowFoundry x = new BowFoundry();
            Check.same("allowed", x.addAlloy(p[0], p[1], p[2]), 0);
            for (int metal = 0; metal < 3; metal++) {
                Check.same("parts", x.parts(0, metal), p[metal]);
            }
        }
        int[][] refused = {{0, 0, 0}, {-1, 1, 1}, {1, -1, 1}, {1, 1, -1}, {10, 1, 1}, {1, 10, 1}, {1, 1, 10},
            {-1, 2, 0}, {1, -1, 0}, {0, 1, -1}};
        for (int[] p : refused) {
            Check.refuses("refused", Given.ARGUMENT, () -> new BowFoundry().addAlloy(p[0], p[1], p[2]));
        }
    }

    private static void unitsTimesParts() {
        Check.sentence(ALLOYS, "To melt a number of units of an alloy takes as many grams of each metal as the units "
                + "times its parts.");
        BowFoundry x = Given.foundry(9, 1, 0, 1, 90);
        x.cast(0, 0, 9);
        Check.same("nine units", Given.storeText(x), "c9t81s90 1x9");
        x.cast(0, 0, 1);
        Check.same("one unit, to the last gram", Given.storeText(x), "c0t80s90 1x10");
        Check.refuses("none left", Given.UNSUPPORTED, () -> x.cast(0, 0, 1));
    }

    private static void atMost4Moulds() {
        Check.sentence(MOULDS, "At most 4 moulds have the indices 0 to n - 1 in the order in which they were added; "
                + "moulds are never removed.");
        BowFoundry x = new BowFoundry();
        Check.same("none yet", x.mouldCount(), 0);
        for (int i = 0; i < 4; i++) {
            Check.same("added", x.addMould(50 - i), i);
            Check.same("count", x.mouldCount(), i + 1);
        }
        Check.refuses("fifth", Given.STATE, () -> x.addMould(1));
        for (int i = 0; i < 4; i++) {
            Check.same("length of " + i, x.mouldLength(i), 50 - i);
        }
        Check.refuses("before the first", Given.INDEX, () -> x.mouldLength(-1));
        Check.refuses("behind the last", Given.INDEX, () -> x.mouldLength(4));
        Check.same("never removed", Given.usedUp().mouldCount(), 1);
    }

    private static void lengthOf1To50() {
        Check.sentence(MOULDS, "A mould has a length of 1 to 50 and a number of uses, initially 0.");
        for (int length : new int[] {1, 50}) {
            BowFoundry x = new BowFoundry();
            Check.same("allowed", x.addMould(length), 0);
            Check.same("length", x.mouldLength(0), length);
            Check.same("uses", x.uses(0), 0);
        }
        for (int length : new int[] {0, 51}) {
            Check.refuses("length " + length, Given.ARGUMENT, () -> new BowFoundry().addMould(length));
        }
        BowFoundry y = Given.usedUp();
        y.undo();
        y.addMould(2);
        Check.same("uses of a later one", y.uses(1), 0);
    }

    private static void eachBowUsesTheMouldOnce() {
        Check.sentence(MOULDS, "Each bow that is cast uses the mould once.");
        BowFoundry x = Given.batchOf(1);
        x.addMould(2);
        Check.same("one bow", x.uses(0), 1);
        x.cast(0, 0, 9);
        Check.same("ten bows", x.uses(0), 10);
        Check.same("the other mould", x.uses(1), 0);
    }

    private static void mouldWith20Uses() {
        Check.sentence(MOULDS, "A mould with 20 uses can cast no bow until it is renewed.");
        BowFoundry x = Given.usedUp();
        Check.same("20 uses", x.uses(0), 20);
        Check.refuses("no bow", Given.STATE, () -> x.cast(0, 0, 1));
        x.addMould(2);
        Check.answers("another mould", () -> x.cast(0, 1, 1));
        x.renewMould(1);
        Check.refuses("the other one renewed", Given.STATE, () -> x.cast(0, 0, 1));
        x.renewMould(0);
        Check.answers("renewed", () -> x.cast(0, 0, 9));
        BowFoundry y = Given.usedUp();
        y.undo();
        y.cast(0, 0, 1);
        Check.refuses("two bows with 19 uses", Given.STATE, () -> y.cast(0, 0, 2));
        Check.answers("one bow with 19 uses", () -> y.cast(0, 0, 1));
        BowFoundry z = Given.batchOf(9);
        z.cast(0, 0, 3);
        Check.refuses("nine bows with 12 uses", Given.STATE, () -> z.cast(0, 0, 9));
        Check.answers("eight bows with 12 uses", () -> z.cast(0, 0, 8));
    }

    private static void bowTakesOneUnit() {
        Check.sentence(MOULDS, "A bow takes 1 unit of its alloy.");
        for (int bows : new int[] {1, 9}) {
            BowFoundry x = Given.foundry(1, 1, 1, 1, bows);
            Check.same("possible", x.possibleBows(0), bows);
            x.cast(0, 0, bows);
            Check.same("all used", Given.storeText(x), "c0t0s0 1x" + bows);
        }
    }

    private static void bowsAreNumbered() {
        Check.sentence(BOWS, "Bows are numbered 0, 1 and so on in the order in which they were cast, and a number is "
                + "never used again.");
        BowFoundry x = Given.batchOf(2);
        Check.same("first", x.firstBow(0), 0);
        x.cast(0, 0, 3);
        Check.same("third", x.firstBow(1), 2);
        Given.sell(x, 1);
        x.cast(0, 0, 1);
        Check.same("after sold ones", x.firstBow(2), 5);
        Given.fail(x, 2);
        x.melt(2);
        x.cast(0, 0, 1);
        Check.same("after melted ones", x.firstBow(3), 6);
        for (int gone = 2; gone <= 5; gone++) {
            int bow = gone;
            Check.refuses("bow " + bow, Given.ELEMENT, () -> x.squeak(bow));
        }
        Check.refuses("not cast yet", Given.ELEMENT, () -> x.squeak(7));
    }

    /** The sums are those of 7 * c + 11 * t + 3 * s + 5 * l, with an unused mould. */
    private static void squeakModulo100() {
        Check.sentence(BOWS, "A bow has a squeak from 0 to 99, which is computed when it is cast: "
                + "(7 * c + 11 * t + 3 * s + 5 * l + 13 * u) modulo 100");
        int[][] sums = {{8, 0, 0, 1, 1}, {99, 4, 6, 0, 1}, {100, 0, 5, 0, 9}, {101, 1, 4, 0, 10}, {199, 0, 9, 0, 20},
            {200, 0, 5, 0, 29}, {299, 0, 9, 0, 40}, {300, 0, 5, 0, 49}, {439, 9, 9, 9, 50}};
        for (int[] s : sums) {
            BowFoundry x = Given.foundry(s[1], s[2], s[3], s[4], 9);
            Check.same("next with " + s[0], x.nextSqueak(0, 0), s[0] % 100);
            x.cast(0, 0, 1);
            Check.same("sum " + s[0], x.squeak(0), s[0] % 100);
        }
        BowFoundry most = Given.foundry(9, 9, 9, 50, 180);
        most.cast(0, 0, 9);
        most.cast(0, 0, 9);
        most.cast(0, 0, 2);
        Check.same("439 + 13 * 19", most.squeak(19), 86);
    }

    private static void squeakCountsUsesBefore() {
        Check.sentence(BOWS, "u is the number of uses of the mould before this bow.");
        BowFoundry x = Given.usedUp();
        for (int bow = 0; bow < 20; bow++) {
            Check.same("bow " + bow, x.squeak(bow), Given.SQUEAKS[bow]);
        }
        x.renewMould(0);
        Check.same("computed when it was cast", x.squeak(19), 59);
        x.cast(0, 0, 2);
        Check.same("first of the renewed mould", x.squeak(20), 12);
        Check.same("second of the renewed mould", x.squeak(21), 25);
    }

    private static void batchIsOneCast() {
        Check.sentence(BATCHES, "A batch consists of the bows that one call of cast produces.");
        for (int bows = 1; bows <= 9; bows++) {
            BowFoundry x = Given.batchOf(bows);
            x.cast(0, 0, 1);
            Check.same("batches", x.batchCount(), 2);
            Check.same("size", x.batchSize(0), bows);
            Check.same("its last bow", x.batchOf(bows - 1), 0);
            Check.same("the next bow", x.batchOf(bows), 1);
        }
    }

    private static void atMost8Batches() {
        Check.sentence(BATCHES, "At most 8 batches exist; they are numbered like bows, from 0, and a number is never "
                + "used again.");
        BowFoundry x = new BowFoundry();
        Check.same("none yet", x.batchCount(), 0);
        BowFoundry y = Given.eightBatches();
        Check.same("eight", y.batchCount(), 8);
        for (int i = 0; i < 8; i++) {
            Check.same("numbered", y.batchAt(i), i);
        }
        Check.refuses("ninth", Given.STATE, () -> y.cast(0, 0, 1));
        Given.fail(y, 7);
        Check.refuses("a failed one exists", Given.STATE, () -> y.cast(0, 0, 1));
        y.melt(7);
        Check.same("in place of a melted one", y.cast(0, 0, 1), 8);
        Check.refuses("ninth again", Given.STATE, () -> y.cast(0, 0, 1));
        Given.sell(y, 0);
        Check.same("in place of a sold one", y.cast(0, 0, 1), 9);
        Check.refuses("ninth once more", Given.STATE, () -> y.cast(0, 0, 1));
        Check.same("the numbers go on", y.batchAt(7), 9);
    }

    private static void batchIsOpenWhenCast() {
        Check.sentence(BATCHES, "A batch is open when it is cast.");
        BowFoundry x = Given.gaps();
        x.setTolerance(0);
        Check.same("its number", x.cast(0, 0, 1), 5);
        Check.same("though it would not pass", x.isFailed(5), false);
        Given.fail(x, 5);
        x.melt(5);
        x.cast(0, 0, 1);
        Check.same("in place of a failed one", x.isFailed(6), false);
    }

    private static void toleranceFrom0To99() {
        Check.sentence(BATCHES, "The tolerance is a number from 0 to 99, initially 50.");
        BowFoundry x = new BowFoundry();
        Check.same("initially", x.tolerance(), 50);
        Check.refuses("-1", Given.ARGUMENT, () -> x.setTolerance(-1));
        Check.refuses("100", Given.ARGUMENT, () -> x.setTolerance(100));
        x.setTolerance(0);
        Check.same("least", x.tolerance(), 0);
        x.setTolerance(99);
        Check.same("greatest", x.tolerance(), 99);
        Check.same("initially good", Given.batchOf(4).goodBows(0), 3);
    }

    private static void goodIsAtMostTheTolerance() {
        Check.sentence(BATCHES, "A bow is good if its squeak is at most the tolerance.");
        BowFoundry x = Given.batchOf(2);
        x.setTolerance(24);
        Check.same("one above", x.isGood(1), false);
        x.setTolerance(25);
        Check.same("just at it", x.isGood(1), true);
        x.setTolerance(26);
        Check.same("one below", x.isGood(1), true);
        BowFoundry least = Given.foundry(0, 5, 0, 9, 5);
        least.cast(0, 0, 1);
        least.setTolerance(0);
        Check.same("squeak 0 with tolerance 0", least.isGood(0), true);
        BowFoundry most = Given.foundry(4, 6, 0, 1, 6);
        most.cast(0, 0, 1);
        most.setTolerance(98);
        Check.same("squeak 99 with tolerance 98", most.isGood(0), false);
        most.setTolerance(99);
        Check.same("squeak 99 with tolerance 99", most.isGood(0), true);
    }

    /** Of 12, 25, 38, 51, 64, 77, 90, 3, 16: all; 12, 38, 64, 90, 16; 12, 51, 90; 12, 64, 16; 12, 77. */
    private static void everyKthBow() {
        Check.sentence(BATCHES, "every k-th bow of it is sampled, beginning with its first one, where k is the step");
        int[] least = {38, 38, 51, 16, 77};
        for (int step = 1; step <= 5; step++) {
            int needed = least[step - 1];
            BowFoundry x = Given.batchOf(9);
            x.setStep(step);
            x.setTolerance(needed - 1);
            Check.same("just not, step " + step, x.inspect(0), false);
            BowFoundry y = Given.batchOf(9);
            y.setStep(step);
            y.setTolerance(needed);
            Check.same("just so, step " + step, y.inspect(0), true);
        }
        for (int bows = 1; bows <= 5; bows++) {
            BowFoundry x = Given.batchOf(bows);
            x.setStep(5);
            x.setTolerance(12);
            Check.same("the first one alone", x.inspect(0), true);
        }
        BowFoundry y = Given.batchOf(6);
        y.setStep(5);
        y.setTolerance(12);
        Check.same("the sixth one too", y.inspect(0), false);
    }

    private static void stepFrom1To5() {
        Check.sentence(BATCHES, "a number from 1 to 5, initially 2.");
        BowFoundry x = Given.batchOf(9);
        Check.same("initially", x.step(), 2);
        Check.same("sampled initially", x.sampleSize(0), 5);
        Check.refuses("0", Given.ARGUMENT, () -> x.setStep(0));
        Check.refuses("6", Given.ARGUMENT, () -> x.setStep(6));
        x.setStep(1);
        Check.same("least", x.sampleSize(0), 9);
        x.setStep(5);
        Check.same("greatest", x.sampleSize(0), 2);
    }

    /** The least tolerances that pass the first bows of 12, 25, 38, 51, 64, 77, 90, 3, 16. */
    private static void moreThanHalf() {
        Check.sentence(BATCHES, "The batch passes if more than half of the sampled bows are good");
        int[] least = {12, 25, 25, 38, 38, 51, 51, 51, 38};
        for (int bows = 1; bows <= 9; bows++) {
            for (int tolerance : new int[] {0, least[bows - 1] - 1, least[bows - 1], 99}) {
                BowFoundry x = Given.batchOf(bows);
                x.setStep(1);
                x.setTolerance(tolerance);
                boolean passes = tolerance >= least[bows - 1];
                Check.same(bows + " bows would pass with " + tolerance, x.wouldPass(0), passes);
                Check.same(bows + " bows pass with " + tolerance, x.inspect(0), passes);
            }
        }
    }

    private static void soldBowsAreGone() {
        Check.sentence(BATCHES, "then its bows are sold, and it does not exist any more.");
        BowFoundry x = Given.batchOf(9);
        Given.sell(x, 0);
        Check.same("all of its bows", x.soldTotal(), 9);
        Check.same("no batch", x.batchCount(), 0);
        Check.refuses("the batch", Given.ELEMENT, () -> x.batchSize(0));
        Check.refuses("its first bow", Given.ELEMENT, () -> x.batchOf(0));
        Check.refuses("its last bow", Given.ELEMENT, () -> x.batchOf(8));
        Check.refuses("not melted", Given.ELEMENT, () -> x.melt(0));
        Check.same("nothing returned", x.stock(0), 90);
        Check.same("nothing lost", x.lostGrams(0), 0);
        Check.same("not in batches", x.metalInBatches(0), 0);
        Check.same("in the accounts", x.metalByAccounts(0), 0);
    }

    private static void otherwiseFailed() {
        Check.sentence(BATCHES, "Otherwise the batch is failed.");
        BowFoundry x = Given.batchOf(9);
        Given.fail(x, 0);
        Check.same("failed", x.isFailed(0), true);
        Check.same("it still exists", x.batchCount(), 1);
        Check.same("its bows too", x.squeak(8), 16);
        Check.same("not sold", x.soldTotal(), 0);
        x.setTolerance(99);
        Check.same("it stays failed", x.isFailed(0), true);
        Check.refuses("not inspected again", Given.STATE, () -> x.inspect(0));
    }

    private static void onlyFailedIsMelted() {
        Check.sentence(MELTING, "A failed batch can be melted: its bows do not exist any more");
        BowFoundry x = Given.batchOf(2);
        Check.refuses("an open one", Given.STATE, () -> x.melt(0));
        Given.fail(x, 0);
        Check.answers("a failed one", () -> x.melt(0));
        Check.refuses("its first bow", Given.ELEMENT, () -> x.squeak(0));
        Check.refuses("its last bow", Given.ELEMENT, () -> x.squeak(1));
        Check.same("melted bows", x.meltedTotal(), 2);
    }

    /** By the parts of the metal: none and one return nothing, nine return eight. */
    private static void oneGramLess() {
        Check.sentence(MELTING, "each of them returns 1 gram less of each metal than it took, but not less than 0 "
                + "grams, to the store.");
        for (int parts = 0; parts <= 9; parts++) {
            int back = parts == 0 ? 0 : parts - 1;
            for (int bows : new int[] {1, 9}) {
                BowFoundry x = Given.foundry(parts, 1, 9, 1, 90);
                x.cast(0, 0, bows);
                Given.fail(x, 0);
                Check.same("returned by " + parts, x.melt(0), bows * (back + 8));
                Check.same("stock with " + parts, x.stock(0), 90 - bows * parts + bows * back);
                Check.same("stock with 1", x.stock(1), 90 - bows);
                Check.same("stock with 9", x.stock(2), 90 - bows);
            }
        }
    }

    private static void whatIsLost() {
        Check.sentence(MELTING, "The grams that are not returned are lost.");
        BowFoundry x = Given.foundry(0, 1, 9, 1, 90);
        x.cast(0, 0, 9);
        Given.fail(x, 0);
        Check.same("none lost yet", x.lostGrams(2), 0);
        x.melt(0);
        Check.same("none of no part", x.lostGrams(0), 0);
        Check.same("all of one part", x.lostGrams(1), 9);
        Check.same("one of nine parts", x.lostGrams(2), 9);
    }

    private static void stockAbove999() {
        Check.sentence(MELTING, "A stock may become greater than 999 by that.");
        BowFoundry x = Given.foundry(9, 0, 0, 1, 81);
        x.cast(0, 0, 9);
        Given.fail(x, 0);
        Given.buyAll(x, 0, 927);
        x.save();
        x.melt(0);
        Check.same("just 999", x.stock(0), 999);
        Check.refuses("no gram more", Given.STATE, () -> x.buy(0, 1));
        x.restore();
        x.buy(0, 1);
        x.melt(0);
        Check.same("just above", x.stock(0), 1000);
        x.restore();
        x.buy(0, 72);
        Check.same("full", x.stock(0), 999);
        x.melt(0);
        Check.same("far above", x.stock(0), 1071);
        Check.same("shown", Given.storeText(x), "c1071t81s81 1x9");
        Check.same("in the accounts", x.metalByAccounts(0), 0);
        Check.same("possible bows", x.possibleBows(0), 119);
    }

    private static void meltedBatchIsGone() {
        Check.sentence(MELTING, "Then the batch does not exist any more.");
        BowFoundry x = Given.batchOf(2);
        Given.fail(x, 0);
        x.melt(0);
        Check.same("none left", x.batchCount(), 0);
        Check.refuses("not melted again", Given.ELEMENT, () -> x.melt(0));
        Check.refuses("not inspected", Given.ELEMENT, () -> x.inspect(0));
        Check.refuses("not asked for", Given.ELEMENT, () -> x.isFailed(0));
        Check.refuses("no position", Given.ELEMENT, () -> x.batchAt(0));
        Check.same("not in batches", x.metalInBatches(0), 0);
    }
}
