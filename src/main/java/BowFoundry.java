import java.util.NoSuchElementException;

/** A foundry that casts violin bows from melted alloys. */
public final class BowFoundry {
    private static final int METALS = 3;
    private static final int MOST_ALLOYS = 6;
    private static final int MOST_PARTS = 9;
    private static final int MOST_MOULDS = 4;
    private static final int MOST_LENGTH = 50;
    private static final int MOST_USES = 20;
    private static final int MOST_GRAMS = 99;
    private static final int MOST_STOCK = 999;
    private static final int MOST_BATCHES = 8;
    private static final int MOST_BOWS = 9;
    private static final int SQUEAKS = 100;
    private static final int FIRST_TOLERANCE = 50;
    private static final int MOST_TOLERANCE = 99;
    private static final int FIRST_STEP = 2;
    private static final int MOST_STEP = 5;
    private static final int MOST_CHARACTERS = 60;
    private static final char FIRST_CHARACTER = 32;
    private static final char LAST_CHARACTER = 126;
    private static final int MOST_UNDOS = 8;
    // Besides the states to go back to: the present one, and the one that a change is tried on.
    private static final int STATES = MOST_UNDOS + 2;
    private static final int NONE = -1;

    // What a call answers is never below 0, so these numbers are free to tell a refusal.
    private static final int NO_INDEX = -1;
    private static final int BAD_ARGUMENT = -2;
    private static final int BAD_STATE = -3;
    private static final int TOO_LITTLE = -4;
    private static final int NO_ELEMENT = -5;

    private static final Command[] COMMANDS = Command.values();

    private final State[] states = new State[STATES];
    private final State snapshot = new State();
    private final Script script = new Script();
    private final StringBuilder output = new StringBuilder();
    private int present = 0;
    private int undos = 0;
    private boolean hasSnapshot = false;
    private int latestErrorPosition = NONE;
    private int latestFailedCommand = NONE;

    public BowFoundry() {
        for (int i = 0; i < states.length; i++) {
            states[i] = new State();
        }
    }

    // ---- changes ----

    public int addAlloy(int copper, int tin, int silver)
            throws IllegalArgumentException, IllegalStateException {
        return kept(draft().mixAlloy(copper, tin, silver));
    }

    public int addMould(int length) throws IllegalArgumentException, IllegalStateException {
        return kept(draft().placeMould(length));
    }

    public int buy(int metal, int grams)
            throws IndexOutOfBoundsException, IllegalArgumentException, IllegalStateException {
        return kept(draft().takeIn(metal, grams));
    }

    public int cast(int alloy, int mould, int bows)
            throws IndexOutOfBoundsException, IllegalArgumentException, IllegalStateException,
            UnsupportedOperationException {
        return kept(draft().pour(alloy, mould, bows));
    }

    public boolean inspect(int batch) throws NoSuchElementException, IllegalStateException {
        return kept(draft().examine(batch)) == 1;
    }

    public int melt(int batch) throws NoSuchElementException, IllegalStateException {
        return kept(draft().meltDown(batch));
    }

    public int renewMould(int mould) throws IndexOutOfBoundsException {
        return kept(draft().resetUses(mould));
    }

    public int setTolerance(int tolerance) throws IllegalArgumentException {
        return kept(draft().changeTolerance(tolerance));
    }

    public int setStep(int step) throws IllegalArgumentException {
        return kept(draft().changeStep(step));
    }

    // ---- alloys, moulds and the store ----

    public int alloyCount() {
        return now().alloys;
    }

    public int parts(int alloy, int metal) throws IndexOutOfBoundsException {
        return answered(now().partsOf(alloy, metal));
    }

    public int mouldCount() {
        return now().moulds;
    }

    public int mouldLength(int mould) throws IndexOutOfBoundsException {
        return answered(now().lengthOf(mould));
    }

    public int uses(int mould) throws IndexOutOfBoundsException {
        return answered(now().usesOf(mould));
    }

    public int stock(int metal) throws IndexOutOfBoundsException {
        return answered(now().stockOf(metal));
    }

    public int tolerance() {
        return now().tolerance;
    }

    public int step() {
        return now().step;
    }

    // ---- batches and bows ----

    public int batchCount() {
        return now().batches;
    }

    public int batchAt(int position) throws NoSuchElementException {
        State state = now();
        if (position < 0 || position >= state.batches) {
            throw new NoSuchElementException("there is no such position");
        }
        return state.batchRow[position].number;
    }

    public boolean isFailed(int batch) throws NoSuchElementException {
        return now().batchRow[placeOf(batch)].failed;
    }

    public int batchSize(int batch) throws NoSuchElementException {
        return now().batchRow[placeOf(batch)].size;
    }

    public int firstBow(int batch) throws NoSuchElementException {
        return now().batchRow[placeOf(batch)].first;
    }

    public int squeak(int bow) throws NoSuchElementException {
        return answered(now().squeakOf(bow));
    }

    public boolean isGood(int bow) throws NoSuchElementException {
        return answered(now().squeakOf(bow)) <= now().tolerance;
    }

    public int batchOf(int bow) throws NoSuchElementException {
        return answered(now().batchWith(bow));
    }

    public int goodBows(int batch) throws NoSuchElementException {
        return now().batchRow[placeOf(batch)].goodSampled(1, now().tolerance);
    }

    public int sampleSize(int batch) throws NoSuchElementException {
        return now().batchRow[placeOf(batch)].sampled(now().step);
    }

    // ---- predictions ----

    public boolean wouldPass(int batch) throws NoSuchElementException {
        return now().batchRow[placeOf(batch)].passes(now().step, now().tolerance);
    }

    public int neededTolerance(int batch) throws NoSuchElementException {
        return now().batchRow[placeOf(batch)].leastPassingSqueak(now().step);
    }

    public int neededToleranceByTrying(int batch) throws NoSuchElementException {
        return now().batchRow[placeOf(batch)].leastPassingTry(now().step);
    }

    public int nextSqueak(int alloy, int mould) throws IndexOutOfBoundsException {
        return answered(now().squeakToCome(alloy, mould));
    }

    public int possibleBows(int alloy) throws IndexOutOfBoundsException {
        return answered(now().bowsInStore(alloy));
    }

    // ---- accounts and rankings ----

    public int metalInBatches(int metal) throws IndexOutOfBoundsException {
        return answered(now().metalByBows(metal));
    }

    public int metalByAccounts(int metal) throws IndexOutOfBoundsException {
        return answered(now().metalByBooks(metal));
    }

    public int batchBySqueak(int rank) throws NoSuchElementException {
        return answered(now().batchRanked(rank));
    }

    public int castTotal() {
        return now().castBows;
    }

    public int soldTotal() {
        return now().soldBows;
    }

    public int meltedTotal() {
        return now().meltedBows;
    }

    public int lostGrams(int metal) throws IndexOutOfBoundsException {
        return answered(now().lostOf(metal));
    }

    public double meanSqueak() throws ArithmeticException {
        int bows = now().bowsInBatches();
        if (bows == 0) {
            throw new ArithmeticException("there are no bows in batches");
        }
        return (double) now().squeaksInBatches() / (double) bows;
    }

    public float soldShare() throws ArithmeticException {
        int bows = now().castBows;
        if (bows == 0) {
            throw new ArithmeticException("no bow has been cast");
        }
        return (float) now().soldBows / (float) bows;
    }

    public boolean isConsistent() {
        State state = now();
        return state.tolerancesAgree() && state.metalsAgree() && state.bowsAgree();
    }

    // ---- output text ----

    public int renderBatch(int batch) throws NoSuchElementException {
        Batch shown = now().batchRow[placeOf(batch)];
        output.setLength(0);
        shown.describe(output);
        return output.length();
    }

    public int renderStore() {
        output.setLength(0);
        now().describe(output);
        return output.length();
    }

    public char outputAt(int index) throws IndexOutOfBoundsException {
        if (index < 0 || index >= output.length()) {
            throw new IndexOutOfBoundsException("there is no such character of the output text");
        }
        return output.charAt(index);
    }

    // ---- scripts ----

    public int type(char character) throws IllegalArgumentException, IllegalStateException {
        if (character < FIRST_CHARACTER || character > LAST_CHARACTER) {
            throw new IllegalArgumentException("the character code is not between 32 and 126");
        }
        if (script.length() >= MOST_CHARACTERS) {
            throw new IllegalStateException("the script buffer is full");
        }
        return script.append(character);
    }

    public int runScript() throws IllegalArgumentException, IllegalStateException {
        int wrong = script.firstError();
        if (wrong != NONE) {
            script.clear();
            latestErrorPosition = wrong;
            throw new IllegalArgumentException("the script does not have the required form");
        }
        int failed = script.firstFailure(draft());
        int commands = script.commands;
        script.clear();
        if (failed != NONE) {
            latestFailedCommand = failed;
            throw new IllegalStateException("a command of the script failed");
        }
        return kept(commands);
    }

    public int errorPosition() throws NoSuchElementException {
        if (latestErrorPosition == NONE) {
            throw new NoSuchElementException("no script has had a wrong form");
        }
        return latestErrorPosition;
    }

    public int failedCommand() throws NoSuchElementException {
        if (latestFailedCommand == NONE) {
            throw new NoSuchElementException("no script has had a failed command");
        }
        return latestFailedCommand;
    }

    // ---- undo and snapshot ----

    public int undo() throws IllegalStateException {
        if (undos == 0) {
            throw new IllegalStateException("there is nothing to undo");
        }
        present = present == 0 ? STATES - 1 : present - 1;
        undos--;
        return undos;
    }

    public int save() {
        snapshot.copyFrom(now());
        hasSnapshot = true;
        return snapshot.batches;
    }

    public int restore() throws IllegalStateException {
        if (!hasSnapshot) {
            throw new IllegalStateException("there is no snapshot");
        }
        now().copyFrom(snapshot);
        undos = 0;
        return snapshot.batches;
    }

    // ---- the ring of states ----

    private State now() {
        return states[present];
    }

    private int following() {
        return present == STATES - 1 ? 0 : present + 1;
    }

    /** A copy of the present state, which a change is tried on; a refused change just leaves it. */
    private State draft() {
        State draft = states[following()];
        draft.copyFrom(now());
        return draft;
    }

    /** Makes the draft the present state, unless the change was refused. */
    private int kept(int answer) {
        int result = answered(answer);
        present = following();
        undos = Math.min(undos + 1, MOST_UNDOS);
        return result;
    }

    /** The place of a batch that exists in the row of batches. */
    private int placeOf(int batch) {
        return answered(now().placeWith(batch));
    }

    private static int answered(int answer) {
        switch (answer) {
            case NO_INDEX:
                throw new IndexOutOfBoundsException("there is no such index");
            case BAD_ARGUMENT:
                throw new IllegalArgumentException("a number is outside its bounds");
            case BAD_STATE:
                throw new IllegalStateException("the present state does not allow this");
            case TOO_LITTLE:
                throw new UnsupportedOperationException("the store has too little of a metal");
            case NO_ELEMENT:
                throw new NoSuchElementException("there is no such batch, bow or rank");
            default:
                return answer;
        }
    }

    private static void copyRow(int[] from, int[] to) {
        System.arraycopy(from, 0, to, 0, Math.min(from.length, to.length));
    }

    /** The bows of one call of cast. */
    private static final class Batch {
        private int number = 0;
        private int first = 0;
        private int size = 0;
        private int alloy = 0;
        private boolean failed = false;
        private final int[] squeaks = new int[MOST_BOWS];

        void copyFrom(Batch other) {
            number = other.number;
            first = other.first;
            size = other.size;
            alloy = other.alloy;
            failed = other.failed;
            copyRow(other.squeaks, squeaks);
        }

        boolean contains(int bow) {
            return bow >= first && bow < first + size;
        }

        int squeakSum() {
            int sum = 0;
            for (int i = 0; i < size; i++) {
                sum += squeaks[i];
            }
            return sum;
        }

        int sampled(int step) {
            return goodSampled(step, MOST_TOLERANCE);
        }

        int goodSampled(int step, int tolerance) {
            int good = 0;
            int next = 0;
            for (int i = 0; i < size; i++) {
                if (i == next) {
                    next += step;
                    good += squeaks[i] <= tolerance ? 1 : 0;
                }
            }
            return good;
        }

        boolean passes(int step, int tolerance) {
            return 2 * goodSampled(step, tolerance) > sampled(step);
        }

        /** Only at the squeak of a sampled bow can a rising tolerance make one more bow good. */
        int leastPassingSqueak(int step) {
            int least = MOST_TOLERANCE;
            int next = 0;
            for (int i = 0; i < size; i++) {
                if (i == next) {
                    next += step;
                    if (squeaks[i] < least && passes(step, squeaks[i])) {
                        least = squeaks[i];
                    }
                }
            }
            return least;
        }

        int leastPassingTry(int step) {
            for (int tolerance = 0; tolerance < MOST_TOLERANCE; tolerance++) {
                if (passes(step, tolerance)) {
                    return tolerance;
                }
            }
            return MOST_TOLERANCE;
        }

        void describe(StringBuilder text) {
            text.append(number).append(failed ? '!' : '?').append(':');
            for (int i = 0; i < size; i++) {
                if (i > 0) {
                    text.append(',');
                }
                text.append(squeaks[i]);
            }
        }
    }

    /** Everything that undo and the snapshot cover. */
    private static final class State {
        private int alloys = 0;
        private final int[][] recipes = new int[MOST_ALLOYS][METALS];
        private int moulds = 0;
        private final int[] lengths = new int[MOST_MOULDS];
        private final int[] usesRow = new int[MOST_MOULDS];
        private final int[] stocks = new int[METALS];
        private final int[] bought = new int[METALS];
        private final int[] sold = new int[METALS];
        private final int[] lost = new int[METALS];
        private int tolerance = FIRST_TOLERANCE;
        private int step = FIRST_STEP;
        private int batches = 0;
        // In the order of their numbers; the places from batches on are spare.
        private final Batch[] batchRow = new Batch[MOST_BATCHES];
        private int nextBatch = 0;
        // Also the number of the next bow.
        private int castBows = 0;
        private int soldBows = 0;
        private int meltedBows = 0;

        State() {
            for (int i = 0; i < batchRow.length; i++) {
                batchRow[i] = new Batch();
            }
        }

        void copyFrom(State other) {
            alloys = other.alloys;
            for (int i = 0; i < MOST_ALLOYS; i++) {
                copyRow(other.recipes[i], recipes[i]);
            }
            moulds = other.moulds;
            copyRow(other.lengths, lengths);
            copyRow(other.usesRow, usesRow);
            copyRow(other.stocks, stocks);
            copyRow(other.bought, bought);
            copyRow(other.sold, sold);
            copyRow(other.lost, lost);
            tolerance = other.tolerance;
            step = other.step;
            batches = other.batches;
            for (int i = 0; i < MOST_BATCHES; i++) {
                batchRow[i].copyFrom(other.batchRow[i]);
            }
            nextBatch = other.nextBatch;
            castBows = other.castBows;
            soldBows = other.soldBows;
            meltedBows = other.meltedBows;
        }

        boolean hasAlloy(int alloy) {
            return alloy >= 0 && alloy < alloys;
        }

        boolean hasMould(int mould) {
            return mould >= 0 && mould < moulds;
        }

        static boolean isMetal(int metal) {
            return metal >= 0 && metal < METALS;
        }

        static boolean isPart(int parts) {
            return parts >= 0 && parts <= MOST_PARTS;
        }

        int mixAlloy(int copper, int tin, int silver) {
            if (!isPart(copper) || !isPart(tin) || !isPart(silver) || copper + tin + silver == 0) {
                return BAD_ARGUMENT;
            }
            if (alloys >= MOST_ALLOYS) {
                return BAD_STATE;
            }
            recipes[alloys][0] = copper;
            recipes[alloys][1] = tin;
            recipes[alloys][2] = silver;
            alloys++;
            return alloys - 1;
        }

        int placeMould(int length) {
            if (length < 1 || length > MOST_LENGTH) {
                return BAD_ARGUMENT;
            }
            if (moulds >= MOST_MOULDS) {
                return BAD_STATE;
            }
            lengths[moulds] = length;
            usesRow[moulds] = 0;
            moulds++;
            return moulds - 1;
        }

        int takeIn(int metal, int grams) {
            if (!isMetal(metal)) {
                return NO_INDEX;
            }
            if (grams < 1 || grams > MOST_GRAMS) {
                return BAD_ARGUMENT;
            }
            if (stocks[metal] + grams > MOST_STOCK) {
                return BAD_STATE;
            }
            stocks[metal] += grams;
            bought[metal] += grams;
            return stocks[metal];
        }

        int pour(int alloy, int mould, int bows) {
            if (!hasAlloy(alloy) || !hasMould(mould)) {
                return NO_INDEX;
            }
            if (bows < 1 || bows > MOST_BOWS) {
                return BAD_ARGUMENT;
            }
            if (batches >= MOST_BATCHES || usesRow[mould] + bows > MOST_USES) {
                return BAD_STATE;
            }
            if (bows > bowsInStore(alloy)) {
                return TOO_LITTLE;
            }
            for (int metal = 0; metal < METALS; metal++) {
                stocks[metal] -= bows * recipes[alloy][metal];
            }
            fill(batchRow[batches], alloy, mould, bows);
            batches++;
            castBows += bows;
            nextBatch++;
            return nextBatch - 1;
        }

        void fill(Batch batch, int alloy, int mould, int bows) {
            batch.number = nextBatch;
            batch.first = castBows;
            batch.size = bows;
            batch.alloy = alloy;
            batch.failed = false;
            for (int i = 0; i < bows; i++) {
                batch.squeaks[i] = squeakToCome(alloy, mould);
                usesRow[mould]++;
            }
        }

        int examine(int number) {
            int place = placeWith(number);
            if (place < 0) {
                return NO_ELEMENT;
            }
            Batch batch = batchRow[place];
            if (batch.failed) {
                return BAD_STATE;
            }
            if (!batch.passes(step, tolerance)) {
                batch.failed = true;
                return 0;
            }
            for (int metal = 0; metal < METALS; metal++) {
                sold[metal] += batch.size * recipes[batch.alloy][metal];
            }
            soldBows += batch.size;
            remove(place);
            return 1;
        }

        int meltDown(int number) {
            int place = placeWith(number);
            if (place < 0) {
                return NO_ELEMENT;
            }
            Batch batch = batchRow[place];
            if (!batch.failed) {
                return BAD_STATE;
            }
            int returned = 0;
            for (int metal = 0; metal < METALS; metal++) {
                int parts = recipes[batch.alloy][metal];
                int back = batch.size * Math.max(parts - 1, 0);
                stocks[metal] += back;
                lost[metal] += batch.size * parts - back;
                returned += back;
            }
            meltedBows += batch.size;
            remove(place);
            return returned;
        }

        /** Closes the gap, and keeps the batch that is taken out as a spare one. */
        void remove(int place) {
            Batch gone = batchRow[place];
            for (int i = place; i < batches - 1; i++) {
                batchRow[i] = batchRow[i + 1];
            }
            batches--;
            batchRow[batches] = gone;
        }

        int resetUses(int mould) {
            if (!hasMould(mould)) {
                return NO_INDEX;
            }
            int previous = usesRow[mould];
            usesRow[mould] = 0;
            return previous;
        }

        int changeTolerance(int wanted) {
            if (wanted < 0 || wanted > MOST_TOLERANCE) {
                return BAD_ARGUMENT;
            }
            int previous = tolerance;
            tolerance = wanted;
            return previous;
        }

        int changeStep(int wanted) {
            if (wanted < 1 || wanted > MOST_STEP) {
                return BAD_ARGUMENT;
            }
            int previous = step;
            step = wanted;
            return previous;
        }

        int partsOf(int alloy, int metal) {
            return hasAlloy(alloy) && isMetal(metal) ? recipes[alloy][metal] : NO_INDEX;
        }

        int lengthOf(int mould) {
            return hasMould(mould) ? lengths[mould] : NO_INDEX;
        }

        int usesOf(int mould) {
            return hasMould(mould) ? usesRow[mould] : NO_INDEX;
        }

        int stockOf(int metal) {
            return isMetal(metal) ? stocks[metal] : NO_INDEX;
        }

        int lostOf(int metal) {
            return isMetal(metal) ? lost[metal] : NO_INDEX;
        }

        int placeWith(int number) {
            for (int i = 0; i < batches; i++) {
                if (batchRow[i].number == number) {
                    return i;
                }
            }
            return NO_ELEMENT;
        }

        int placeWithBow(int bow) {
            for (int i = 0; i < batches; i++) {
                if (batchRow[i].contains(bow)) {
                    return i;
                }
            }
            return NO_ELEMENT;
        }

        int batchWith(int bow) {
            int place = placeWithBow(bow);
            return place < 0 ? NO_ELEMENT : batchRow[place].number;
        }

        int squeakOf(int bow) {
            int place = placeWithBow(bow);
            if (place < 0) {
                return NO_ELEMENT;
            }
            Batch batch = batchRow[place];
            return batch.squeaks[bow - batch.first];
        }

        int squeakToCome(int alloy, int mould) {
            if (!hasAlloy(alloy) || !hasMould(mould)) {
                return NO_INDEX;
            }
            int[] recipe = recipes[alloy];
            int sum = 7 * recipe[0] + 11 * recipe[1] + 3 * recipe[2]
                    + 5 * lengths[mould] + 13 * usesRow[mould];
            return sum % SQUEAKS;
        }

        int bowsInStore(int alloy) {
            if (!hasAlloy(alloy)) {
                return NO_INDEX;
            }
            int bows = Integer.MAX_VALUE;
            for (int metal = 0; metal < METALS; metal++) {
                int parts = recipes[alloy][metal];
                if (parts > 0) {
                    bows = Math.min(bows, stocks[metal] / parts);
                }
            }
            return bows;
        }

        int metalByBows(int metal) {
            if (!isMetal(metal)) {
                return NO_INDEX;
            }
            int grams = 0;
            for (int i = 0; i < batches; i++) {
                for (int bow = 0; bow < batchRow[i].size; bow++) {
                    grams += recipes[batchRow[i].alloy][metal];
                }
            }
            return grams;
        }

        int metalByBooks(int metal) {
            if (!isMetal(metal)) {
                return NO_INDEX;
            }
            return bought[metal] - stocks[metal] - sold[metal] - lost[metal];
        }

        int batchRanked(int rank) {
            for (int i = 0; i < batches; i++) {
                if (rankAt(i) == rank) {
                    return batchRow[i].number;
                }
            }
            return NO_ELEMENT;
        }

        /** How many batches come before one by squeak; among equals the places tell the numbers. */
        int rankAt(int place) {
            int sum = batchRow[place].squeakSum();
            int before = 0;
            for (int i = 0; i < batches; i++) {
                int other = batchRow[i].squeakSum();
                if (other < sum || (other == sum && i < place)) {
                    before++;
                }
            }
            return before;
        }

        int bowsInBatches() {
            int bows = 0;
            for (int i = 0; i < batches; i++) {
                bows += batchRow[i].size;
            }
            return bows;
        }

        int squeaksInBatches() {
            int sum = 0;
            for (int i = 0; i < batches; i++) {
                sum += batchRow[i].squeakSum();
            }
            return sum;
        }

        boolean tolerancesAgree() {
            for (int i = 0; i < batches; i++) {
                if (batchRow[i].leastPassingSqueak(step) != batchRow[i].leastPassingTry(step)) {
                    return false;
                }
            }
            return true;
        }

        boolean metalsAgree() {
            for (int metal = 0; metal < METALS; metal++) {
                if (metalByBows(metal) != metalByBooks(metal)) {
                    return false;
                }
            }
            return true;
        }

        boolean bowsAgree() {
            return castBows == soldBows + meltedBows + bowsInBatches();
        }

        void describe(StringBuilder text) {
            text.append('c').append(stocks[0]);
            text.append('t').append(stocks[1]);
            text.append('s').append(stocks[2]);
            for (int i = 0; i < moulds; i++) {
                text.append(' ').append(lengths[i]).append('x').append(usesRow[i]);
            }
        }
    }

    /** The commands of a script; in their forms # is one digit, and * is one digit or two. */
    private enum Command {
        ALLOY("alloy ###"),
        MOULD("mould *"),
        BUY("buy # *"),
        CAST("cast # # #"),
        TEST("test *"),
        MELT("melt *"),
        RENEW("renew #"),
        LIMIT("limit *"),
        STEP("step #");

        private final String form;

        Command(String form) {
            this.form = form;
        }
    }

    /** The script buffer, which is read twice: to check the form first, and then to run it. */
    private static final class Script {
        private final StringBuilder text = new StringBuilder();
        // The numbers of the command that was read last, and how many there are.
        private final int[] numbers = new int[3];
        private int count = 0;
        private int position = 0;
        private int commands = 0;

        int length() {
            return text.length();
        }

        int append(char character) {
            text.append(character);
            return text.length();
        }

        void clear() {
            text.setLength(0);
        }

        /** The error position, or NONE; counts the commands of a script without an error. */
        int firstError() {
            position = 0;
            commands = 0;
            for (int i = 0; i <= MOST_CHARACTERS; i++) {
                if (nextCommand() == null) {
                    return position;
                }
                commands++;
                if (position >= text.length()) {
                    return NONE;
                }
                if (!takes(';')) {
                    return position;
                }
            }
            return position;
        }

        /** Runs the commands on a state; the index of the first that is refused, or NONE. */
        int firstFailure(State state) {
            position = 0;
            for (int i = 0; i < commands; i++) {
                Command command = nextCommand();
                if (command == null || run(command, state) < 0) {
                    return i;
                }
                takes(';');
            }
            return NONE;
        }

        int run(Command command, State state) {
            switch (command) {
                case ALLOY:
                    return state.mixAlloy(numbers[0], numbers[1], numbers[2]);
                case MOULD:
                    return state.placeMould(numbers[0]);
                case BUY:
                    return state.takeIn(numbers[0], numbers[1]);
                case CAST:
                    return state.pour(numbers[0], numbers[1], numbers[2]);
                case TEST:
                    return state.examine(numbers[0]);
                case MELT:
                    return state.meltDown(numbers[0]);
                case RENEW:
                    return state.resetUses(numbers[0]);
                case LIMIT:
                    return state.changeTolerance(numbers[0]);
                case STEP:
                    return state.changeStep(numbers[0]);
                default:
                    return BAD_ARGUMENT;
            }
        }

        /** Reads a command; if there is none, answers null and goes to where all forms have ended. */
        Command nextCommand() {
            int start = position;
            int farthest = start;
            for (int i = 0; i < COMMANDS.length; i++) {
                position = start;
                if (takesForm(COMMANDS[i].form)) {
                    return COMMANDS[i];
                }
                farthest = Math.max(farthest, position);
            }
            position = farthest;
            return null;
        }

        boolean takesForm(String form) {
            count = 0;
            for (int i = 0; i < form.length(); i++) {
                char sign = form.charAt(i);
                boolean isNumber = sign == '#' || sign == '*';
                if (isNumber ? !takesNumber(sign == '*') : !takes(sign)) {
                    return false;
                }
            }
            return true;
        }

        boolean takes(char sign) {
            if (position >= text.length() || text.charAt(position) != sign) {
                return false;
            }
            position++;
            return true;
        }

        boolean takesNumber(boolean mayHaveTwoDigits) {
            int value = digit();
            if (value < 0) {
                return false;
            }
            position++;
            int second = mayHaveTwoDigits ? digit() : NONE;
            if (second >= 0) {
                value = 10 * value + second;
                position++;
            }
            if (count < numbers.length) {
                numbers[count] = value;
                count++;
            }
            return true;
        }

        /** The digit at the position, or NONE. */
        int digit() {
            if (position >= text.length()) {
                return NONE;
            }
            char sign = text.charAt(position);
            return sign >= '0' && sign <= '9' ? sign - '0' : NONE;
        }
    }
}
