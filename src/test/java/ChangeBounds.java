import java.util.ArrayList;
import java.util.List;
import java.util.function.Function;

/** The sentences of the Terms about what is a change, how many can be undone, and what undo and the snapshot cover. */
final class ChangeBounds {
    private static final String CHANGES = "Changes";

    private ChangeBounds() {
    }

    static void test() {
        eachIsAChange();
        changeWithTheSameState();
        nothingElseIsAChange();
        latest8Changes();
        latestOneFirst();
        changesAfterUndo();
        roundAndRound();
        coverEverything();
        leaveTheBuffer();
        leaveErrorAndFailedCommand();
        leaveTheOutput();
        leaveTheSnapshot();
        takeBackTheNumbers();
    }

    /** A foundry with a failed batch 0 and an open batch 1, that has nothing to undo. */
    private static BowFoundry withoutPast() {
        BowFoundry x = Given.foundry(3, 2, 1, 10, 200);
        x.cast(0, 0, 4);
        x.cast(0, 0, 2);
        Given.fail(x, 0);
        x.setTolerance(40);
        x.save();
        x.restore();
        return x;
    }

    private static void isOneChange(String what, Function<BowFoundry, Object> change) {
        BowFoundry x = withoutPast();
        String before = View.state(x);
        Check.answers(what, () -> change.apply(x));
        Check.same("undo of " + what, Check.outcome(() -> x.undo()), "0");
        Check.same("state before " + what, View.state(x), before);
        Check.refuses("one change by " + what, Given.STATE, () -> x.undo());
    }

    private static void eachIsAChange() {
        Check.sentence(CHANGES, "A change is a call of addAlloy, addMould, buy, cast, inspect, melt, renewMould, "
                + "setTolerance, setStep or runScript that returns normally");
        isOneChange("addAlloy", x -> x.addAlloy(1, 2, 3));
        isOneChange("addMould", x -> x.addMould(7));
        isOneChange("buy", x -> x.buy(2, 5));
        isOneChange("cast", x -> x.cast(0, 0, 9));
        isOneChange("inspect of one that fails", x -> x.inspect(1));
        isOneChange("melt", x -> x.melt(0));
        isOneChange("renewMould", x -> x.renewMould(0));
        isOneChange("setTolerance", x -> x.setTolerance(98));
        isOneChange("setStep", x -> x.setStep(3));
        isOneChange("runScript", x -> Given.run(x, "step 1"));
        isOneChange("runScript of eight commands", x -> Given.run(x, "step 1;step 2;melt 0;mould 7;alloy 123;buy 1 8;"
                + "test 1"));
        BowFoundry y = withoutPast();
        y.setTolerance(99);
        y.inspect(1);
        Check.same("undo of one that passes", y.undo(), 1);
        Check.same("it is there again", y.batchAt(1), 1);
        Check.same("not sold", y.soldTotal(), 0);
    }

    private static void changeWithTheSameState() {
        Check.sentence(CHANGES, "even if the state is the same afterwards.");
        isOneChange("setTolerance", x -> x.setTolerance(40));
        isOneChange("setStep", x -> x.setStep(2));
        isOneChange("runScript", x -> Given.run(x, "limit 40;step 2"));
        isOneChange("runScript there and back", x -> Given.run(x, "limit 7;limit 40"));
        BowFoundry y = new BowFoundry();
        y.addMould(1);
        y.renewMould(0);
        Check.same("renewMould of an unused one", y.undo(), 1);
        Check.same("the mould stays", y.mouldCount(), 1);
        Check.same("the mould goes", y.undo() + y.mouldCount(), 0);
    }

    private static void isNoChange(String what, Function<BowFoundry, Object> call) {
        BowFoundry x = withoutPast();
        Check.answers(what, () -> call.apply(x));
        Check.refuses("no change by " + what, Given.STATE, () -> x.undo());
        BowFoundry y = withoutPast();
        y.setStep(5);
        Check.answers(what, () -> call.apply(y));
        Check.same("undo in spite of " + what, y.undo(), 0);
        Check.same("step in spite of " + what, y.step(), 2);
    }

    private static void nothingElseIsAChange() {
        Check.sentence(CHANGES, "A change is a call of");
        isNoChange("save", x -> x.save());
        isNoChange("type", x -> x.type('s'));
        isNoChange("renderBatch", x -> x.renderBatch(0));
        isNoChange("renderStore and outputAt", x -> x.renderStore() + x.outputAt(0));
        isNoChange("questions about batches", x -> x.wouldPass(1) + " " + x.neededTolerance(0) + x.goodBows(0)
                + x.neededToleranceByTrying(1) + x.sampleSize(1) + x.isFailed(0) + x.batchOf(1) + x.isGood(0));
        isNoChange("other questions", x -> x.nextSqueak(0, 0) + x.possibleBows(0) + x.batchBySqueak(0)
                + x.meanSqueak() + x.soldShare() + View.state(x) + x.isConsistent());
        isNoChange("a wrong script", x -> Given.outcomeOf(x, "stop").length() + x.errorPosition());
        isNoChange("a failing script", x -> Given.outcomeOf(x, "step 0").length() + x.failedCommand());
        BowFoundry y = withoutPast();
        y.setStep(5);
        y.undo();
        Check.refuses("undo is none", Given.STATE, () -> y.undo());
        y.setStep(5);
        y.restore();
        Check.refuses("restore is none", Given.STATE, () -> y.undo());
    }

    /** After the tolerances 0, 1 and so on, the state before the change at a place has the tolerance before it. */
    private static void latest8Changes() {
        Check.sentence(CHANGES, "The latest 8 changes can be undone");
        for (int changes = 0; changes <= 32; changes++) {
            BowFoundry x = new BowFoundry();
            for (int i = 0; i < changes; i++) {
                x.setTolerance(i);
            }
            int left = Math.min(changes, 8);
            while (left > 0) {
                left--;
                Check.same("left of " + changes, x.undo(), left);
            }
            Check.refuses("one more of " + changes, Given.STATE, () -> x.undo());
            Check.same("tolerance of " + changes, x.tolerance(), changes <= 8 ? 50 : changes - 9);
        }
    }

    private static void latestOneFirst() {
        Check.sentence(CHANGES, "the latest one first.");
        BowFoundry x = withoutPast();
        List<Function<BowFoundry, Object>> changes = List.of(y -> y.addAlloy(1, 2, 3), y -> y.melt(0),
                y -> y.addMould(7), y -> y.buy(1, 9), y -> y.cast(1, 1, 3), y -> y.setTolerance(0),
                y -> Given.run(y, "test 1;test 2;step 1"), y -> y.renewMould(1));
        List<String> states = new ArrayList<>();
        for (Function<BowFoundry, Object> change : changes) {
            states.add(View.state(x));
            change.apply(x);
        }
        for (int left = 7; left >= 0; left--) {
            Check.same("left", x.undo(), left);
            Check.same("state " + left, View.state(x), states.get(left));
        }
        Check.refuses("nothing left", Given.STATE, () -> x.undo());
    }

    private static void changesAfterUndo() {
        Check.sentence(CHANGES, "The latest 8 changes can be undone, the latest one first.");
        for (int again = 0; again <= 12; again++) {
            BowFoundry x = new BowFoundry();
            for (int i = 1; i <= 8; i++) {
                x.setTolerance(i);
            }
            for (int i = 0; i < 5; i++) {
                x.undo();
            }
            for (int i = 1; i <= again; i++) {
                x.setTolerance(20 + i);
            }
            for (int left = Math.min(3 + again, 8) - 1; left >= 0; left--) {
                Check.same("left with " + again, x.undo(), left);
            }
            Check.refuses("nothing left with " + again, Given.STATE, () -> x.undo());
            int[] oldest = {50, 50, 50, 50, 50, 50, 1, 2, 3, 21, 22, 23, 24};
            Check.same("tolerance with " + again, x.tolerance(), oldest[again]);
        }
    }

    /** Each round makes three changes and undoes two, so that one is kept. */
    private static void roundAndRound() {
        Check.sentence(CHANGES, "The latest 8 changes can be undone");
        BowFoundry x = new BowFoundry();
        for (int round = 0; round < 40; round++) {
            x.setTolerance(round);
            x.setTolerance(99);
            x.setStep(5);
            Check.same("left in round " + round, x.undo(), Math.min(round + 2, 7));
            Check.same("left again in round " + round, x.undo(), Math.min(round + 1, 6));
            Check.same("tolerance of round " + round, x.tolerance(), round);
        }
        for (int left = 5; left >= 0; left--) {
            Check.same("left at the end", x.undo(), left);
            Check.same("tolerance at the end", x.tolerance(), 33 + left);
        }
        Check.refuses("nothing left at the end", Given.STATE, () -> x.undo());
    }

    private static void coverEverything() {
        Check.sentence(CHANGES, "Undo and the snapshot cover everything except");
        BowFoundry x = withoutPast();
        String before = View.state(x);
        Given.run(x, "alloy 123;mould 7;buy 0 99;cast 1 1 9;melt 0;step 1");
        Given.run(x, "limit 99;test 1;limit 0;test 2;melt 2;renew 0;cast 0 0 2");
        x.undo();
        x.undo();
        Check.same("undone", View.state(x), before);
        Given.run(x, "alloy 123;mould 7;buy 0 99;cast 1 1 9;melt 0;step 1");
        Given.run(x, "limit 99;test 1;limit 0;test 2;melt 2;renew 0;cast 0 0 2");
        x.restore();
        Check.same("restored", View.state(x), before);
        Check.same("an alloy again", x.addAlloy(4, 5, 6), 1);
        Check.same("its parts", x.parts(1, 0), 4);
        Check.same("a mould again", x.addMould(8), 1);
        Check.same("its uses", x.uses(1), 0);
        Check.same("consistent", x.isConsistent(), true);
    }

    private static void leaveTheBuffer() {
        Check.sentence(CHANGES, "except the script buffer");
        BowFoundry x = withoutPast();
        Check.type(x, "step ");
        x.setStep(1);
        x.undo();
        Check.same("after undo", x.type('4'), 6);
        x.save();
        Check.type(x, ";step 3");
        x.restore();
        Check.same("after restore", x.type(';'), 14);
        Check.type(x, "limit 7");
        Check.same("it runs", x.runScript(), 3);
        x.undo();
        Check.same("empty after undo of its run", x.type('s'), 1);
    }

    private static void leaveErrorAndFailedCommand() {
        Check.sentence(CHANGES, "the error position, the index of the failed command");
        BowFoundry x = withoutPast();
        x.setStep(1);
        Given.outcomeOf(x, "step x");
        Given.outcomeOf(x, "step 1;step 1;step 0");
        x.undo();
        Check.same("error after undo", x.errorPosition(), 5);
        Check.same("command after undo", x.failedCommand(), 2);
        x.restore();
        Check.same("error after restore", x.errorPosition(), 5);
        Check.same("command after restore", x.failedCommand(), 2);
        x.save();
        Given.outcomeOf(x, "stop");
        Given.outcomeOf(x, "step 1;step 0");
        x.restore();
        Check.same("later error after restore", x.errorPosition(), 2);
        Check.same("later command after restore", x.failedCommand(), 1);
    }

    private static void leaveTheOutput() {
        Check.sentence(CHANGES, "the output text and the snapshot itself");
        BowFoundry x = withoutPast();
        x.buy(0, 9);
        String text = Given.storeText(x);
        x.undo();
        Check.same("after undo", View.output(x), text);
        x.restore();
        Check.same("after restore", View.output(x), text);
        x.save();
        String other = Given.batchText(x, 0);
        x.restore();
        Check.same("of a later text", View.output(x), other);
    }

    private static void leaveTheSnapshot() {
        Check.sentence(CHANGES, "and the snapshot itself");
        BowFoundry x = new BowFoundry();
        x.setTolerance(7);
        x.save();
        x.undo();
        Check.same("before it", x.tolerance(), 50);
        x.setTolerance(8);
        x.undo();
        x.restore();
        Check.same("kept by undo", x.tolerance(), 7);
        x.setTolerance(9);
        x.restore();
        Check.same("kept by restore", x.tolerance(), 7);
        x.setTolerance(10);
        x.setTolerance(11);
        x.undo();
        x.restore();
        Check.same("kept by changes", x.tolerance(), 7);
    }

    private static void takeBackTheNumbers() {
        Check.sentence(CHANGES, "they also take back the numbers of the next bow and the next batch.");
        BowFoundry x = withoutPast();
        x.cast(0, 0, 5);
        x.undo();
        Check.same("batch after undo", x.cast(0, 0, 3), 2);
        Check.same("bow after undo", x.firstBow(2), 6);
        Given.sell(x, 2);
        x.undo();
        x.undo();
        x.undo();
        Check.same("batch after a sale that was undone", x.cast(0, 0, 1), 2);
        Check.same("cast after undo", x.castTotal(), 7);
        x.restore();
        Check.same("batch after restore", x.cast(0, 0, 3), 2);
        Check.same("bow after restore", x.firstBow(2), 6);
        x.undo();
        Given.run(x, "cast 0 0 1;cast 0 0 1;cast 0 0 1");
        x.undo();
        Check.same("batch after undo of a script", x.cast(0, 0, 3), 2);
        Check.same("bow after undo of a script", x.firstBow(2), 6);
    }
}
