import java.util.List;
import java.util.function.Function;
import java.util.function.Supplier;

/** The sentences of the Terms about calls that throw: what they leave as it was, and which exception comes first. */
final class RefusalBounds {
    private static final String CHANGES = "Changes";

    private RefusalBounds() {
    }

    static void test() {
        Check.sentence(CHANGES, "A method that throws an exception changes nothing unless its description says "
                + "otherwise.");
        refusedAdditions();
        refusedPurchases();
        refusedCasts();
        refusedInspections();
        refusedSettings();
        refusedQuestionsByIndex();
        refusedQuestionsByBatch();
        refusedQuestionsByBow();
        refusedRankings();
        refusedOutput();
        refusedTyping();
        refusedUndo();
        refusedScripts();
        Check.sentence(CHANGES, "If several exceptions apply, the one that is listed first is thrown.");
        firstOfAdditions();
        firstOfPurchases();
        firstOfCasts();
        firstOfTyping();
        firstOfScripts();
    }

    /** With something of everything: a past, a snapshot, an output text, a buffer, an error and a failed command. */
    private static BowFoundry rich() {
        BowFoundry x = Given.foundry(3, 2, 1, 10, 200);
        x.addMould(25);
        x.cast(0, 0, 4);
        x.cast(0, 1, 2);
        x.save();
        Given.fail(x, 0);
        x.setTolerance(60);
        Given.outcomeOf(x, "step 1;stxp");
        Given.outcomeOf(x, "step 3;step 0");
        x.renderStore();
        Check.type(x, "limit 7");
        return x;
    }

    private static BowFoundry full() {
        BowFoundry x = rich();
        for (int i = 1; i < 6; i++) {
            x.addAlloy(i, i, i);
        }
        x.addMould(30);
        x.addMould(40);
        Given.buyAll(x, 2, 999 - x.stock(2));
        return x;
    }

    private static BowFoundry withFullBuffer() {
        BowFoundry x = Given.batchOf(3);
        Check.type(x, "step 1;step 2;step 3;step 4;step 5;step 1;limit 12;alloy 321");
        return x;
    }

    /** A refused call is made on one of two like foundries, and then each is looked at in the same way. */
    private static void refused(String what, Class<? extends RuntimeException> due, Supplier<BowFoundry> made,
            Function<BowFoundry, Object> call) {
        BowFoundry x = made.get();
        Check.refuses(what, due, () -> call.apply(x));
        Check.same("all after " + what, View.all(x), View.all(made.get()));
        unchanged("past after " + what, made, call, View::undone);
        unchanged("snapshot after " + what, made, call, View::restored);
        unchanged("buffer after " + what, made, call, View::buffered);
        unchanged("places after " + what, made, call, View::places);
        unchanged("numbers after " + what, made, call, RefusalBounds::numbers);
    }

    private static void unchanged(String what, Supplier<BowFoundry> made, Function<BowFoundry, Object> call,
            Function<BowFoundry, Object> look) {
        BowFoundry x = made.get();
        Check.outcome(() -> call.apply(x));
        Check.same(what, look.apply(x), look.apply(made.get()));
    }

    /** The numbers of the next batch and its first bow, if one can be cast. */
    private static Object numbers(BowFoundry x) {
        return Check.outcome(() -> {
            x.renewMould(0);
            int batch = x.cast(0, 0, 1);
            return batch + " " + x.firstBow(batch);
        });
    }

    private static void refusedAdditions() {
        for (int parts : new int[] {-1, 10}) {
            refused("addAlloy", Given.ARGUMENT, RefusalBounds::rich, x -> x.addAlloy(parts, 1, 1));
            refused("addAlloy", Given.ARGUMENT, RefusalBounds::rich, x -> x.addAlloy(1, parts, 1));
            refused("addAlloy", Given.ARGUMENT, RefusalBounds::rich, x -> x.addAlloy(1, 1, parts));
        }
        refused("addAlloy", Given.ARGUMENT, RefusalBounds::rich, x -> x.addAlloy(0, 0, 0));
        refused("addAlloy", Given.STATE, RefusalBounds::full, x -> x.addAlloy(1, 2, 3));
        refused("addMould", Given.ARGUMENT, RefusalBounds::rich, x -> x.addMould(0));
        refused("addMould", Given.ARGUMENT, RefusalBounds::rich, x -> x.addMould(51));
        refused("addMould", Given.STATE, RefusalBounds::full, x -> x.addMould(7));
    }

    private static void refusedPurchases() {
        refused("buy", Given.INDEX, RefusalBounds::rich, x -> x.buy(-1, 1));
        refused("buy", Given.INDEX, RefusalBounds::rich, x -> x.buy(3, 1));
        refused("buy", Given.ARGUMENT, RefusalBounds::rich, x -> x.buy(0, 0));
        refused("buy", Given.ARGUMENT, RefusalBounds::rich, x -> x.buy(0, 100));
        refused("buy", Given.STATE, RefusalBounds::full, x -> x.buy(2, 1));
    }

    private static void refusedCasts() {
        refused("cast", Given.INDEX, RefusalBounds::rich, x -> x.cast(1, 0, 1));
        refused("cast", Given.INDEX, RefusalBounds::rich, x -> x.cast(0, 2, 1));
        refused("cast", Given.ARGUMENT, RefusalBounds::rich, x -> x.cast(0, 0, 0));
        refused("cast", Given.ARGUMENT, RefusalBounds::rich, x -> x.cast(0, 0, 10));
        refused("cast", Given.STATE, Given::eightBatches, x -> x.cast(0, 0, 1));
        refused("cast", Given.STATE, Given::usedUp, x -> x.cast(0, 0, 1));
        for (int metal = 0; metal < 3; metal++) {
            int less = metal;
            refused("cast", Given.UNSUPPORTED, () -> shortOf(less), x -> x.cast(0, 0, 3));
        }
    }

    /** Enough of the other metals for three bows, but of this one only for two. */
    private static BowFoundry shortOf(int metal) {
        BowFoundry x = Given.foundry(2, 2, 2, 1, 4);
        x.buy((metal + 1) % 3, 2);
        x.buy((metal + 2) % 3, 2);
        x.buy(metal, 1);
        return x;
    }

    private static void refusedInspections() {
        for (int batch : new int[] {-1, 1, 2, 5}) {
            refused("inspect", Given.ELEMENT, Given::gaps, x -> x.inspect(batch));
            refused("melt", Given.ELEMENT, Given::gaps, x -> x.melt(batch));
        }
        refused("inspect", Given.STATE, RefusalBounds::rich, x -> x.inspect(0));
        refused("melt", Given.STATE, RefusalBounds::rich, x -> x.melt(1));
    }

    private static void refusedSettings() {
        refused("renewMould", Given.INDEX, RefusalBounds::rich, x -> x.renewMould(-1));
        refused("renewMould", Given.INDEX, RefusalBounds::rich, x -> x.renewMould(2));
        refused("setTolerance", Given.ARGUMENT, RefusalBounds::rich, x -> x.setTolerance(-1));
        refused("setTolerance", Given.ARGUMENT, RefusalBounds::rich, x -> x.setTolerance(100));
        refused("setStep", Given.ARGUMENT, RefusalBounds::rich, x -> x.setStep(0));
        refused("setStep", Given.ARGUMENT, RefusalBounds::rich, x -> x.setStep(6));
    }

    private static void refusedQuestionsByIndex() {
        refused("parts", Given.INDEX, RefusalBounds::rich, x -> x.parts(1, 0));
        refused("parts", Given.INDEX, RefusalBounds::rich, x -> x.parts(0, 3));
        refused("mouldLength", Given.INDEX, RefusalBounds::rich, x -> x.mouldLength(2));
        refused("uses", Given.INDEX, RefusalBounds::rich, x -> x.uses(2));
        refused("stock", Given.INDEX, RefusalBounds::rich, x -> x.stock(3));
        refused("nextSqueak", Given.INDEX, RefusalBounds::rich, x -> x.nextSqueak(1, 0));
        refused("nextSqueak", Given.INDEX, RefusalBounds::rich, x -> x.nextSqueak(0, 2));
        refused("possibleBows", Given.INDEX, RefusalBounds::rich, x -> x.possibleBows(1));
        refused("metalInBatches", Given.INDEX, RefusalBounds::rich, x -> x.metalInBatches(3));
        refused("metalByAccounts", Given.INDEX, RefusalBounds::rich, x -> x.metalByAccounts(3));
        refused("lostGrams", Given.INDEX, RefusalBounds::rich, x -> x.lostGrams(3));
    }

    private static void refusedQuestionsByBatch() {
        refused("isFailed", Given.ELEMENT, RefusalBounds::rich, x -> x.isFailed(2));
        refused("batchSize", Given.ELEMENT, RefusalBounds::rich, x -> x.batchSize(2));
        refused("firstBow", Given.ELEMENT, RefusalBounds::rich, x -> x.firstBow(2));
        refused("goodBows", Given.ELEMENT, RefusalBounds::rich, x -> x.goodBows(2));
        refused("sampleSize", Given.ELEMENT, RefusalBounds::rich, x -> x.sampleSize(2));
        refused("wouldPass", Given.ELEMENT, RefusalBounds::rich, x -> x.wouldPass(2));
        refused("neededTolerance", Given.ELEMENT, RefusalBounds::rich, x -> x.neededTolerance(2));
        refused("neededToleranceByTrying", Given.ELEMENT, RefusalBounds::rich, x -> x.neededToleranceByTrying(2));
    }

    private static void refusedQuestionsByBow() {
        refused("squeak", Given.ELEMENT, RefusalBounds::rich, x -> x.squeak(6));
        refused("isGood", Given.ELEMENT, RefusalBounds::rich, x -> x.isGood(6));
        refused("batchOf", Given.ELEMENT, RefusalBounds::rich, x -> x.batchOf(6));
    }

    private static void refusedRankings() {
        refused("batchAt", Given.ELEMENT, RefusalBounds::rich, x -> x.batchAt(2));
        refused("batchBySqueak", Given.ELEMENT, RefusalBounds::rich, x -> x.batchBySqueak(2));
        refused("meanSqueak", Given.ARITHMETIC, BowFoundry::new, x -> x.meanSqueak());
        refused("soldShare", Given.ARITHMETIC, BowFoundry::new, x -> x.soldShare());
    }

    private static void refusedOutput() {
        refused("renderBatch", Given.ELEMENT, RefusalBounds::rich, x -> x.renderBatch(-1));
        refused("renderBatch", Given.ELEMENT, RefusalBounds::rich, x -> x.renderBatch(2));
        refused("outputAt", Given.INDEX, RefusalBounds::rich, x -> x.outputAt(-1));
        refused("outputAt", Given.INDEX, RefusalBounds::rich, x -> x.outputAt(99));
    }

    private static void refusedTyping() {
        refused("type", Given.ARGUMENT, RefusalBounds::rich, x -> x.type((char) 31));
        refused("type", Given.ARGUMENT, RefusalBounds::rich, x -> x.type((char) 127));
        refused("type", Given.STATE, RefusalBounds::withFullBuffer, x -> x.type('1'));
        refused("errorPosition", Given.ELEMENT, RefusalBounds::withFullBuffer, x -> x.errorPosition());
        refused("failedCommand", Given.ELEMENT, RefusalBounds::withFullBuffer, x -> x.failedCommand());
    }

    private static void refusedUndo() {
        refused("undo", Given.STATE, () -> {
            BowFoundry x = rich();
            x.restore();
            return x;
        }, x -> x.undo());
        refused("restore", Given.STATE, RefusalBounds::withFullBuffer, x -> x.restore());
    }

    /** runScript says otherwise: the buffer is empty, and one of the two numbers is another one. */
    private static void refusedScripts() {
        BowFoundry before = rich();
        BowFoundry wrong = rich();
        Check.refuses("wrong form", Given.ARGUMENT, () -> Given.run(wrong, "77"));
        Check.same("buffer after a wrong form", View.places(wrong), 60);
        Check.same("state after a wrong form", View.state(wrong), View.state(before));
        Check.same("error after a wrong form", wrong.errorPosition() + " " + wrong.failedCommand(), "8 1");
        Check.same("output after a wrong form", View.output(wrong), View.output(before));
        BowFoundry failing = rich();
        Check.refuses("failing", Given.STATE, () -> Given.run(failing, ";alloy 111;cast 0 0 9;melt 1"));
        Check.same("buffer after a failing one", View.places(failing), 60);
        Check.same("state after a failing one", View.state(failing), View.state(before));
        Check.same("command of a failing one", failing.errorPosition() + " " + failing.failedCommand(), "9 3");
        Check.same("output after a failing one", View.output(failing), View.output(before));
        Function<BowFoundry, Object> wrongForm = x -> Given.run(x, "77");
        Function<BowFoundry, Object> failed = x -> Given.run(x, ";alloy 111;cast 0 0 9;melt 1");
        for (Function<BowFoundry, Object> call : List.of(wrongForm, failed)) {
            unchanged("past after a script", RefusalBounds::rich, call, View::undone);
            unchanged("snapshot after a script", RefusalBounds::rich, call, View::restored);
            unchanged("numbers after a script", RefusalBounds::rich, call, RefusalBounds::numbers);
        }
    }

    private static void firstOfAdditions() {
        BowFoundry x = full();
        Check.refuses("no part at six alloys", Given.ARGUMENT, () -> x.addAlloy(0, 0, 0));
        Check.refuses("a part too few at six alloys", Given.ARGUMENT, () -> x.addAlloy(1, 1, -1));
        Check.refuses("a part too many at six alloys", Given.ARGUMENT, () -> x.addAlloy(10, 1, 1));
        Check.refuses("length 0 at four moulds", Given.ARGUMENT, () -> x.addMould(0));
        Check.refuses("length 51 at four moulds", Given.ARGUMENT, () -> x.addMould(51));
    }

    private static void firstOfPurchases() {
        BowFoundry x = full();
        Check.refuses("no metal, no gram", Given.INDEX, () -> x.buy(3, 0));
        Check.refuses("no metal, too many grams", Given.INDEX, () -> x.buy(-1, 100));
        Check.refuses("too many grams for a full stock", Given.ARGUMENT, () -> x.buy(2, 100));
        BowFoundry y = new BowFoundry();
        Given.buyAll(y, 0, 900);
        Check.refuses("too many grams that make the stock too great", Given.ARGUMENT, () -> y.buy(0, 100));
    }

    private static void firstOfCasts() {
        BowFoundry eight = Given.eightBatches();
        Check.refuses("alloy and bows", Given.INDEX, () -> eight.cast(1, 0, 0));
        Check.refuses("mould and bows", Given.INDEX, () -> eight.cast(0, 1, 10));
        Check.refuses("alloy and eight batches", Given.INDEX, () -> eight.cast(1, 0, 1));
        Check.refuses("mould and eight batches", Given.INDEX, () -> eight.cast(0, -1, 1));
        Check.refuses("no bow and eight batches", Given.ARGUMENT, () -> eight.cast(0, 0, 0));
        Check.refuses("ten bows and eight batches", Given.ARGUMENT, () -> eight.cast(0, 0, 10));
        eight.addAlloy(0, 0, 9);
        Given.sell(eight, 0);
        eight.renewMould(0);
        eight.cast(1, 0, 9);
        Check.refuses("eight batches and too little metal", Given.STATE, () -> eight.cast(1, 0, 3));
        Given.sell(eight, 1);
        Check.refuses("too little metal alone", Given.UNSUPPORTED, () -> eight.cast(1, 0, 3));
        BowFoundry used = Given.usedUp();
        Check.refuses("alloy and no use", Given.INDEX, () -> used.cast(-1, 0, 1));
        Check.refuses("no bow and no use", Given.ARGUMENT, () -> used.cast(0, 0, 0));
        Check.refuses("ten bows and no use", Given.ARGUMENT, () -> used.cast(0, 0, 10));
        used.addAlloy(0, 0, 9);
        used.addMould(9);
        used.cast(1, 1, 9);
        Check.refuses("no use and too little metal", Given.STATE, () -> used.cast(1, 0, 3));
        BowFoundry poor = Given.foundry(1, 1, 1, 1, 0);
        Check.refuses("alloy and no metal", Given.INDEX, () -> poor.cast(1, 0, 1));
        Check.refuses("mould and no metal", Given.INDEX, () -> poor.cast(0, 1, 1));
        Check.refuses("ten bows and no metal", Given.ARGUMENT, () -> poor.cast(0, 0, 10));
        Check.refuses("no metal alone", Given.UNSUPPORTED, () -> poor.cast(0, 0, 1));
    }

    private static void firstOfTyping() {
        BowFoundry x = withFullBuffer();
        Check.refuses("31 in a full buffer", Given.ARGUMENT, () -> x.type((char) 31));
        Check.refuses("127 in a full buffer", Given.ARGUMENT, () -> x.type((char) 127));
    }

    private static void firstOfScripts() {
        BowFoundry x = new BowFoundry();
        Check.same("failing, then wrong", Given.outcomeOf(x, "step 0;stop"), "throws.IllegalArgumentException");
        Check.refuses("no failed command", Given.ELEMENT, () -> x.failedCommand());
        Check.same("error", x.errorPosition(), 9);
    }
}
