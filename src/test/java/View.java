/** All that can be asked of a foundry without a change, so that two of them can be compared. */
final class View {
    private final BowFoundry x;
    private final StringBuilder text = new StringBuilder();

    private View(BowFoundry x) {
        this.x = x;
    }

    /** What undo and the snapshot cover. */
    static String state(BowFoundry x) {
        View view = new View(x);
        view.alloysAndMoulds();
        view.metals();
        view.batches();
        view.put("numbers", () -> x.castTotal() + " " + x.soldTotal() + " " + x.meltedTotal());
        view.put("limits", () -> x.tolerance() + " " + x.step());
        view.put("mean", () -> x.meanSqueak());
        view.put("share", () -> x.soldShare());
        return view.text.toString();
    }

    /** What undo and the snapshot leave alone, but for the buffer and the snapshot itself. */
    static String rest(BowFoundry x) {
        View view = new View(x);
        view.put("output", () -> output(x));
        view.put("error", () -> x.errorPosition());
        view.put("failed", () -> x.failedCommand());
        return view.text.toString();
    }

    static String all(BowFoundry x) {
        return state(x) + rest(x);
    }

    static String output(BowFoundry x) {
        StringBuilder output = new StringBuilder();
        for (int i = 0; i < 100; i++) {
            int index = i;
            String sign = Check.outcome(() -> x.outputAt(index));
            if (sign.length() > 1) {
                return output.toString();
            }
            output.append(sign);
        }
        return output + "...";
    }

    /** What each undo answers and leaves, until there is nothing to undo. */
    static String undone(BowFoundry x) {
        StringBuilder undone = new StringBuilder();
        for (int i = 0; i < 10; i++) {
            undone.append(Check.outcome(() -> x.undo())).append(": ").append(Given.storeText(x));
            undone.append(' ').append(x.batchCount()).append(' ').append(x.castTotal());
            undone.append(' ').append(x.tolerance()).append(' ').append(x.step()).append('\n');
        }
        return undone.toString();
    }

    static String restored(BowFoundry x) {
        return Check.outcome(() -> x.restore()) + "\n" + state(x);
    }

    /** What the buffer holds shows in how its text runs, and in how many characters find place in it. */
    static String buffered(BowFoundry x) {
        String run = Check.outcome(() -> x.runScript());
        return run + " " + x.tolerance() + " " + rest(x);
    }

    static int places(BowFoundry x) {
        int places = 0;
        while (places < 100 && !Check.outcome(() -> x.type(' ')).startsWith("throws.")) {
            places++;
        }
        return places;
    }

    private void put(String name, Check.Call call) {
        text.append(name).append(' ').append(Check.outcome(call)).append('\n');
    }

    private void alloysAndMoulds() {
        put("alloys", () -> x.alloyCount());
        for (int i = 0; i < x.alloyCount(); i++) {
            int alloy = i;
            put("parts", () -> x.parts(alloy, 0) + " " + x.parts(alloy, 1) + " " + x.parts(alloy, 2));
        }
        put("moulds", () -> x.mouldCount());
        for (int i = 0; i < x.mouldCount(); i++) {
            int mould = i;
            put("mould", () -> x.mouldLength(mould) + " " + x.uses(mould));
        }
    }

    private void metals() {
        for (int i = 0; i < 3; i++) {
            int metal = i;
            put("metal", () -> x.stock(metal) + " " + x.lostGrams(metal) + " " + x.metalInBatches(metal) + " "
                    + x.metalByAccounts(metal));
        }
    }

    private void batches() {
        put("batches", () -> x.batchCount());
        for (int i = 0; i < x.batchCount(); i++) {
            int batch = x.batchAt(i);
            put("batch " + batch, () -> x.isFailed(batch) + " " + x.batchSize(batch) + " " + x.firstBow(batch));
            for (int k = 0; k < x.batchSize(batch); k++) {
                int bow = x.firstBow(batch) + k;
                put("bow " + bow, () -> x.squeak(bow) + " " + x.batchOf(bow));
            }
        }
    }
}
