import java.util.ArrayDeque;
import java.util.ArrayList;
import java.util.List;
import java.util.NoSuchElementException;
import java.util.regex.Matcher;
import java.util.regex.Pattern;

/** Long runs of made-up calls, each answered by BowFoundry and by a plain model of the document. */
public final class ModelTest {
    private static final int RUNS = 3000;
    private static final int CALLS = 512;

    private long seed;
    private BowFoundry real;
    private Model model;
    private int run;

    public static void main(String[] args) {
        ModelTest test = new ModelTest();
        for (int run = 0; run < RUNS; run++) {
            test.oneRun(run);
        }
        Check.end("ModelTest");
    }

    private void oneRun(int number) {
        run = number;
        seed = 1000003L * number + 17;
        real = new BowFoundry();
        model = new Model();
        int left = CALLS;
        while (left > 0) {
            left -= pick(10) == 0 ? script(left) : pick(2) == 0 ? change() : question();
        }
    }

    /** A number below the bound, always the same ones in the same order. */
    private int pick(int bound) {
        seed = seed * 6364136223846793005L + 1442695040888963407L;
        return (int) ((seed >>> 33) % bound);
    }

    private int among(int from, int to) {
        return from + pick(to - from + 1);
    }

    private void both(String call, Check.Call onReal, Check.Call onModel) {
        Check.same("run " + run + ", " + call, Check.outcome(onReal), Check.outcome(onModel));
    }

    private int batch() {
        return pick(12) == 0 ? among(-1, 3) : model.now.nextBatch - 1 - pick(10);
    }

    private int change() {
        int a = among(-1, 4);
        int b = among(-1, 3);
        int n = among(0, 10);
        switch (pick(20)) {
            case 0: {
                int c = among(-1, 10), t = among(0, 3), s = among(0, 4) * pick(2);
                both("addAlloy " + c + t + s, () -> real.addAlloy(c, t, s), () -> model.addAlloy(c, t, s));
                break;
            }
            case 1: {
                int l = among(-1, 52);
                both("addMould " + l, () -> real.addMould(l), () -> model.addMould(l));
                break;
            }
            case 2: case 3: case 4: case 5: {
                int g = pick(3) == 0 ? among(-1, 100) : among(60, 99);
                both("buy " + b + " " + g, () -> real.buy(b, g), () -> model.buy(b, g));
                break;
            }
            case 6: case 7: case 8: case 9:
                both("cast " + a + " " + b + " " + n, () -> real.cast(a, b, n), () -> model.cast(a, b, n));
                break;
            case 10: case 11: case 12: {
                int t = batch();
                both("inspect " + t, () -> real.inspect(t), () -> model.inspect(t));
                break;
            }
            case 13: case 14: {
                int t = batch();
                both("melt " + t, () -> real.melt(t), () -> model.melt(t));
                break;
            }
            case 15:
                both("renewMould " + b, () -> real.renewMould(b), () -> model.renewMould(b));
                break;
            case 16: {
                int t = among(-1, 100);
                both("setTolerance " + t, () -> real.setTolerance(t), () -> model.setTolerance(t));
                break;
            }
            case 17: {
                int s = among(0, 6);
                both("setStep " + s, () -> real.setStep(s), () -> model.setStep(s));
                break;
            }
            case 18:
                both("undo", () -> real.undo(), () -> model.undo());
                break;
            default:
                if (pick(3) == 0) {
                    both("restore", () -> real.restore(), () -> model.restore());
                } else {
                    both("save", () -> real.save(), () -> model.save());
                }
        }
        return 1;
    }

    private int question() {
        int a = among(-1, 6);
        int m = among(-1, 4);
        int e = among(-1, 3);
        int b = batch();
        int p = among(-1, 8);
        int w = pick(4) == 0 ? among(-1, 80) : model.now.castBows - among(0, 40);
        int o = among(-1, 40);
        State s = model.now;
        switch (pick(38)) {
            case 0: both("alloyCount", () -> real.alloyCount(), () -> s.alloys.size()); break;
            case 1: both("parts", () -> real.parts(a, e), () -> model.parts(a, e)); break;
            case 2: both("mouldCount", () -> real.mouldCount(), () -> s.moulds.size()); break;
            case 3: both("mouldLength", () -> real.mouldLength(m), () -> model.mould(m)[0]); break;
            case 4: both("uses", () -> real.uses(m), () -> model.mould(m)[1]); break;
            case 5: both("stock", () -> real.stock(e), () -> s.stock[Model.metal(e)]); break;
            case 6: both("tolerance", () -> real.tolerance(), () -> s.tolerance); break;
            case 7: both("step", () -> real.step(), () -> s.step); break;
            case 8: both("batchCount", () -> real.batchCount(), () -> s.lots.size()); break;
            case 9: both("batchAt", () -> real.batchAt(p), () -> Model.at(s.lots, p).number); break;
            case 10: both("isFailed", () -> real.isFailed(b), () -> model.lot(b).failed); break;
            case 11: both("batchSize", () -> real.batchSize(b), () -> model.lot(b).bows.size()); break;
            case 12: both("firstBow", () -> real.firstBow(b), () -> model.lot(b).bows.get(0)[0]); break;
            case 13: both("squeak", () -> real.squeak(w), () -> model.bow(w)[1]); break;
            case 14: both("isGood", () -> real.isGood(w), () -> model.bow(w)[1] <= s.tolerance); break;
            case 15: both("batchOf", () -> real.batchOf(w), () -> model.bow(w)[2]); break;
            case 16: both("goodBows", () -> real.goodBows(b), () -> model.good(model.lot(b).bows, s.tolerance)); break;
            case 17: both("sampleSize", () -> real.sampleSize(b), () -> model.sample(b).size()); break;
            case 18: both("wouldPass", () -> real.wouldPass(b), () -> model.passes(b, s.tolerance)); break;
            case 19: both("neededTolerance", () -> real.neededTolerance(b), () -> model.needed(b)); break;
            case 20: both("byTrying", () -> real.neededToleranceByTrying(b), () -> model.needed(b)); break;
            case 21: both("nextSqueak", () -> real.nextSqueak(a, m), () -> model.nextSqueak(a, m)); break;
            case 22: both("possibleBows", () -> real.possibleBows(a), () -> model.possible(a)); break;
            case 23: both("metalInBatches", () -> real.metalInBatches(e), () -> model.held(e)); break;
            case 24: both("metalByAccounts", () -> real.metalByAccounts(e), () -> model.held(e)); break;
            case 25: both("batchBySqueak", () -> real.batchBySqueak(p), () -> Model.at(model.ranked(), p).number); break;
            case 26: both("castTotal", () -> real.castTotal(), () -> s.castBows); break;
            case 27: both("soldTotal", () -> real.soldTotal(), () -> s.soldBows); break;
            case 28: both("meltedTotal", () -> real.meltedTotal(), () -> s.meltedBows); break;
            case 29: both("lostGrams", () -> real.lostGrams(e), () -> s.lost[Model.metal(e)]); break;
            case 30: both("meanSqueak", () -> real.meanSqueak(), () -> model.mean()); break;
            case 31: both("soldShare", () -> real.soldShare(), () -> model.share()); break;
            case 32: both("isConsistent", () -> real.isConsistent(), () -> true); break;
            case 33: both("renderBatch", () -> real.renderBatch(b), () -> model.show(model.describe(b))); break;
            case 34: both("renderStore", () -> real.renderStore(), () -> model.show(model.describeStore())); break;
            case 35: both("outputAt", () -> real.outputAt(o), () -> model.outputAt(o)); break;
            case 36: both("errorPosition", () -> real.errorPosition(), () -> Model.known(model.errorPosition)); break;
            default: both("failedCommand", () -> real.failedCommand(), () -> Model.known(model.failedCommand));
        }
        return 1;
    }

    /** Types a script and runs it; answers how many calls that took. */
    private int script(int left) {
        StringBuilder text = new StringBuilder();
        int commands = among(0, 4);
        for (int i = 0; i < commands; i++) {
            text.append(i == 0 ? "" : ";").append(command());
        }
        while (pick(12) == 0 && text.length() > 0) {
            int place = pick(text.length());
            String signs = "0123456789; abcdelmostrw";
            switch (pick(3)) {
                case 0: text.deleteCharAt(place); break;
                case 1: text.insert(place, signs.charAt(pick(signs.length()))); break;
                default: text.setCharAt(place, signs.charAt(pick(signs.length())));
            }
        }
        int calls = 0;
        for (int i = 0; i < text.length() && calls < left; i++) {
            char sign = pick(300) == 0 ? (char) pick(300) : text.charAt(i);
            both("type " + (int) sign, () -> real.type(sign), () -> model.type(sign));
            calls++;
        }
        if (calls < left) {
            String typed = model.buffer.toString();
            both("runScript " + typed, () -> real.runScript(), () -> model.runScript());
            calls++;
        }
        return Math.max(calls, 1);
    }

    private String command() {
        int b = Math.max(0, Math.min(99, batch()));
        switch (pick(12)) {
            case 0: return "alloy " + pick(4) + pick(3) + pick(10);
            case 1: return "mould " + pick(53);
            case 2: case 3: return "buy " + pick(4) + " " + (pick(2) == 0 ? "0" + pick(10) : 90 + pick(10));
            case 4: case 5: return "cast " + pick(4) + " " + pick(4) + " " + pick(10);
            case 6: case 7: return "test " + b;
            case 8: return "melt " + b;
            case 9: return "renew " + pick(4);
            case 10: return "limit " + pick(100);
            default: return "step " + pick(7);
        }
    }

    private static final class Lot {
        int number;
        int[] recipe;
        boolean failed;
        // Each bow: its number, its squeak, its batch.
        List<int[]> bows = new ArrayList<>();

        Lot copy() {
            Lot copy = new Lot();
            copy.number = number;
            copy.recipe = recipe;
            copy.failed = failed;
            copy.bows = bows;
            return copy;
        }
    }

    private static final class State {
        List<int[]> alloys = new ArrayList<>();
        List<int[]> moulds = new ArrayList<>();
        List<Lot> lots = new ArrayList<>();
        int[] stock = new int[3];
        int[] lost = new int[3];
        int tolerance = 50;
        int step = 2;
        int nextBatch;
        int castBows;
        int soldBows;
        int meltedBows;

        State copy() {
            State copy = new State();
            copy.alloys.addAll(alloys);
            for (int[] mould : moulds) {
                copy.moulds.add(mould.clone());
            }
            for (Lot lot : lots) {
                copy.lots.add(lot.copy());
            }
            copy.stock = stock.clone();
            copy.lost = lost.clone();
            copy.tolerance = tolerance;
            copy.step = step;
            copy.nextBatch = nextBatch;
            copy.castBows = castBows;
            copy.soldBows = soldBows;
            copy.meltedBows = meltedBows;
            return copy;
        }
    }

    private static final class Model {
        private static final String NUMBER = "[0-9][0-9]?";
        private static final String COMMAND = "(?:alloy [0-9][0-9][0-9]|mould " + NUMBER + "|buy [0-9] "
                + NUMBER + "|cast [0-9] [0-9] [0-9]|test " + NUMBER + "|melt " + NUMBER
                + "|renew [0-9]|limit " + NUMBER + "|step [0-9])";
        private static final Pattern SCRIPT = Pattern.compile(COMMAND + "(?:;" + COMMAND + ")*");

        State now = new State();
        ArrayDeque<State> history = new ArrayDeque<>();
        State snapshot;
        StringBuilder buffer = new StringBuilder();
        String output = "";
        Integer errorPosition;
        Integer failedCommand;

        static int metal(int metal) {
            if (metal < 0 || metal > 2) {
                throw new IndexOutOfBoundsException();
            }
            return metal;
        }

        static <T> T indexed(List<T> list, int index) {
            if (index < 0 || index >= list.size()) {
                throw new IndexOutOfBoundsException();
            }
            return list.get(index);
        }

        static Lot at(List<Lot> list, int index) {
            if (index < 0 || index >= list.size()) {
                throw new NoSuchElementException();
            }
            return list.get(index);
        }

        static int known(Integer value) {
            if (value == null) {
                throw new NoSuchElementException();
            }
            return value;
        }

        static void demand(boolean holds) {
            if (!holds) {
                throw new IllegalArgumentException();
            }
        }

        static void allow(boolean holds) {
            if (!holds) {
                throw new IllegalStateException();
            }
        }

        int[] mould(int mould) {
            return indexed(now.moulds, mould);
        }

        int parts(int alloy, int metal) {
            return indexed(now.alloys, alloy)[metal(metal)];
        }

        Lot lot(int number) {
            for (Lot lot : now.lots) {
                if (lot.number == number) {
                    return lot;
                }
            }
            throw new NoSuchElementException();
        }

        int[] bow(int number) {
            for (Lot lot : now.lots) {
                for (int[] bow : lot.bows) {
                    if (bow[0] == number) {
                        return bow;
                    }
                }
            }
            throw new NoSuchElementException();
        }

        void change() {
            history.addLast(now.copy());
            if (history.size() > 8) {
                history.removeFirst();
            }
        }

        int addAlloy(int c, int t, int s) {
            demand(c >= 0 && c < 10 && t >= 0 && t < 10 && s >= 0 && s < 10 && c + t + s > 0);
            allow(now.alloys.size() < 6);
            change();
            now.alloys.add(new int[] {c, t, s});
            return now.alloys.size() - 1;
        }

        int addMould(int length) {
            demand(length > 0 && length < 51);
            allow(now.moulds.size() < 4);
            change();
            now.moulds.add(new int[] {length, 0});
            return now.moulds.size() - 1;
        }

        int buy(int metal, int grams) {
            metal(metal);
            demand(grams > 0 && grams < 100);
            allow(now.stock[metal] + grams < 1000);
            change();
            now.stock[metal] += grams;
            return now.stock[metal];
        }

        int cast(int alloy, int mould, int bows) {
            int[] recipe = indexed(now.alloys, alloy);
            mould(mould);
            demand(bows > 0 && bows < 10);
            allow(now.lots.size() < 8 && mould(mould)[1] + bows < 21);
            if (possible(alloy) < bows) {
                throw new UnsupportedOperationException();
            }
            change();
            Lot lot = new Lot();
            lot.number = now.nextBatch++;
            lot.recipe = recipe;
            for (int i = 0; i < bows; i++) {
                lot.bows.add(new int[] {now.castBows++, nextSqueak(alloy, mould), lot.number});
                mould(mould)[1]++;
                for (int m = 0; m < 3; m++) {
                    now.stock[m] -= recipe[m];
                }
            }
            now.lots.add(lot);
            return lot.number;
        }

        boolean inspect(int batch) {
            allow(!lot(batch).failed);
            change();
            if (!passes(batch, now.tolerance)) {
                lot(batch).failed = true;
                return false;
            }
            now.soldBows += lot(batch).bows.size();
            now.lots.remove(lot(batch));
            return true;
        }

        int melt(int batch) {
            allow(lot(batch).failed);
            change();
            int returned = 0;
            Lot lot = lot(batch);
            for (int i = 0; i < lot.bows.size(); i++) {
                for (int m = 0; m < 3; m++) {
                    int back = lot.recipe[m] > 0 ? lot.recipe[m] - 1 : 0;
                    now.stock[m] += back;
                    now.lost[m] += lot.recipe[m] - back;
                    returned += back;
                }
            }
            now.meltedBows += lot.bows.size();
            now.lots.remove(lot);
            return returned;
        }

        int renewMould(int mould) {
            mould(mould);
            change();
            int uses = mould(mould)[1];
            mould(mould)[1] = 0;
            return uses;
        }

        int setTolerance(int tolerance) {
            demand(tolerance >= 0 && tolerance < 100);
            change();
            int previous = now.tolerance;
            now.tolerance = tolerance;
            return previous;
        }

        int setStep(int step) {
            demand(step > 0 && step < 6);
            change();
            int previous = now.step;
            now.step = step;
            return previous;
        }

        List<int[]> sample(int batch) {
            List<int[]> sample = new ArrayList<>();
            List<int[]> bows = lot(batch).bows;
            for (int i = 0; i < bows.size(); i++) {
                if (i % now.step == 0) {
                    sample.add(bows.get(i));
                }
            }
            return sample;
        }

        int good(List<int[]> bows, int tolerance) {
            return (int) bows.stream().filter(bow -> bow[1] <= tolerance).count();
        }

        boolean passes(int batch, int tolerance) {
            return good(sample(batch), tolerance) > sample(batch).size() / 2.0;
        }

        int needed(int batch) {
            int[] squeaks = sample(batch).stream().mapToInt(bow -> bow[1]).sorted().toArray();
            return squeaks[squeaks.length / 2];
        }

        int nextSqueak(int alloy, int mould) {
            int[] r = indexed(now.alloys, alloy);
            int[] m = mould(mould);
            return (7 * r[0] + 11 * r[1] + 3 * r[2] + 5 * m[0] + 13 * m[1]) % 100;
        }

        int possible(int alloy) {
            int[] recipe = indexed(now.alloys, alloy);
            int bows = 0;
            while (true) {
                for (int m = 0; m < 3; m++) {
                    if ((bows + 1) * recipe[m] > now.stock[m]) {
                        return bows;
                    }
                }
                bows++;
            }
        }

        int held(int metal) {
            metal(metal);
            return now.lots.stream().mapToInt(lot -> lot.bows.size() * lot.recipe[metal]).sum();
        }

        static int sum(Lot lot) {
            return lot.bows.stream().mapToInt(bow -> bow[1]).sum();
        }

        List<Lot> ranked() {
            List<Lot> ranked = new ArrayList<>(now.lots);
            ranked.sort((a, b) -> sum(a) != sum(b) ? sum(a) - sum(b) : a.number - b.number);
            return ranked;
        }

        double mean() {
            int bows = now.lots.stream().mapToInt(lot -> lot.bows.size()).sum();
            if (bows == 0) {
                throw new ArithmeticException();
            }
            return (double) now.lots.stream().mapToInt(Model::sum).sum() / bows;
        }

        float share() {
            if (now.castBows == 0) {
                throw new ArithmeticException();
            }
            return (float) now.soldBows / now.castBows;
        }

        String describe(int batch) {
            Lot lot = lot(batch);
            List<String> squeaks = lot.bows.stream().map(bow -> "" + bow[1]).toList();
            return batch + (lot.failed ? "!:" : "?:") + String.join(",", squeaks);
        }

        String describeStore() {
            String text = "c" + now.stock[0] + "t" + now.stock[1] + "s" + now.stock[2];
            for (int[] mould : now.moulds) {
                text += " " + mould[0] + "x" + mould[1];
            }
            return text;
        }

        int show(String text) {
            output = text;
            return text.length();
        }

        char outputAt(int index) {
            if (index < 0 || index >= output.length()) {
                throw new IndexOutOfBoundsException();
            }
            return output.charAt(index);
        }

        int type(char sign) {
            demand(sign >= 32 && sign <= 126);
            allow(buffer.length() < 60);
            buffer.append(sign);
            return buffer.length();
        }

        int runScript() {
            String text = buffer.toString();
            buffer.setLength(0);
            if (!SCRIPT.matcher(text).matches()) {
                errorPosition = firstBad(text);
                throw new IllegalArgumentException();
            }
            State before = now.copy();
            ArrayDeque<State> past = new ArrayDeque<>(history);
            String[] commands = text.split(";");
            for (int i = 0; i < commands.length; i++) {
                try {
                    perform(commands[i].split(" "));
                } catch (RuntimeException e) {
                    now = before;
                    history = past;
                    failedCommand = i;
                    throw new IllegalStateException();
                }
            }
            history = past;
            State after = now;
            now = before;
            change();
            now = after;
            return commands.length;
        }

        static int firstBad(String text) {
            for (int i = 0; i < text.length(); i++) {
                Matcher matcher = SCRIPT.matcher(text.substring(0, i + 1));
                if (!matcher.matches() && !matcher.hitEnd()) {
                    return i;
                }
            }
            return text.length();
        }

        void perform(String[] words) {
            int first = Integer.parseInt(words[1]);
            switch (words[0]) {
                case "alloy": addAlloy(first / 100, first / 10 % 10, first % 10); break;
                case "mould": addMould(first); break;
                case "buy": buy(first, Integer.parseInt(words[2])); break;
                case "cast": cast(first, Integer.parseInt(words[2]), Integer.parseInt(words[3])); break;
                case "test": inspect(first); break;
                case "melt": melt(first); break;
                case "renew": renewMould(first); break;
                case "limit": setTolerance(first); break;
                default: setStep(first);
            }
        }

        int undo() {
            allow(!history.isEmpty());
            now = history.removeLast();
            return history.size();
        }

        int save() {
            snapshot = now.copy();
            return now.lots.size();
        }

        int restore() {
            allow(snapshot != null);
            now = snapshot.copy();
            history.clear();
            return now.lots.size();
        }
    }
}
