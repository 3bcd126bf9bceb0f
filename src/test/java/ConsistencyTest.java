import java.lang.reflect.Array;
import java.lang.reflect.Field;

/**
 * No call puts the state wrong, so that isConsistent would be false. Here single numbers of it are put wrong in the
 * private fields, so that each of the three things that the document has isConsistent check is seen to be checked.
 */
public final class ConsistencyTest {
    private static final int METALS = 3;

    private final BowFoundry x;
    private final Object state;

    private ConsistencyTest(BowFoundry x) throws ReflectiveOperationException {
        this.x = x;
        Object states = value(x, "states");
        state = Array.get(states, (int) value(x, "present"));
    }

    public static void main(String[] args) throws ReflectiveOperationException {
        BowFoundry[] foundries = {Given.workshop(), Given.batchOf(9), Given.eightBatches(), Given.gaps(), mixed()};
        for (BowFoundry x : foundries) {
            ConsistencyTest test = new ConsistencyTest(x);
            Check.same("consistent at first", x.isConsistent(), true);
            test.neededTolerances();
            test.metals();
            test.bows();
            Check.same("consistent at last", x.isConsistent(), true);
        }
        Check.end("ConsistencyTest");
    }

    /** A batch of each of six alloys: number 0 is sold, 1 is melted, 2 is failed, the others are open. */
    private static BowFoundry mixed() {
        BowFoundry x = Given.foundry(1, 2, 3, 10, 300);
        for (int i = 1; i < 6; i++) {
            x.addAlloy(i, 9 - i, 1);
        }
        for (int i = 0; i < 6; i++) {
            x.cast(i, 0, i % 3 + 1);
        }
        Given.sell(x, 0);
        Given.fail(x, 1);
        x.melt(1);
        x.inspect(2);
        return x;
    }

    private static Field field(Object owner, String name) throws ReflectiveOperationException {
        Field field = owner.getClass().getDeclaredField(name);
        field.setAccessible(true);
        return field;
    }

    private static Object value(Object owner, String name) throws ReflectiveOperationException {
        return field(owner, name).get(owner);
    }

    /** A squeak below 0 needs a tolerance below 0, but only tolerances from 0 on are tried. */
    private void neededTolerances() throws ReflectiveOperationException {
        for (int i = 0; i < x.batchCount(); i++) {
            Object batch = Array.get(value(state, "batchRow"), i);
            int[] squeaks = (int[]) value(batch, "squeaks");
            int[] kept = squeaks.clone();
            for (int bow = 0; bow < squeaks.length; bow++) {
                squeaks[bow] = -1;
            }
            int number = x.batchAt(i);
            Check.same("with needed tolerance of " + number + " wrong", x.isConsistent(), false);
            System.arraycopy(kept, 0, squeaks, 0, kept.length);
        }
    }

    private void metals() throws ReflectiveOperationException {
        for (String account : new String[] {"bought", "stocks", "sold", "lost"}) {
            int[] grams = (int[]) value(state, account);
            for (int metal = 0; metal < METALS; metal++) {
                for (int wrong : new int[] {-1, 1}) {
                    grams[metal] += wrong;
                    Check.same("with " + account + " of metal " + metal + " wrong", x.isConsistent(), false);
                    grams[metal] -= wrong;
                }
            }
        }
    }

    private void bows() throws ReflectiveOperationException {
        for (String total : new String[] {"castBows", "soldBows", "meltedBows"}) {
            Field field = field(state, total);
            int kept = field.getInt(state);
            for (int wrong : new int[] {-1, 1}) {
                field.setInt(state, kept + wrong);
                Check.same("with " + total + " wrong", x.isConsistent(), false);
            }
            field.setInt(state, kept);
        }
    }
}
