import java.lang.reflect.Method;
import java.lang.reflect.Modifier;
import java.util.ArrayList;
import java.util.Comparator;
import java.util.List;
import java.util.Random;

/**
 * LANGUAGE.md's rule 7: no call may ever throw, for any arguments in any state.
 * Behind 512 calls answers are free, but these must come too.
 */
public final class AnyCallTest {
    private static final int RUNS = 40;
    private static final int CALLS = 5000;

    private static final Check CHECK = new Check("AnyCallTest");

    public static void main(String[] args) throws ReflectiveOperationException {
        List<Method> face = face();
        for (int run = 0; run < RUNS; run++) {
            Random random = new Random(run);
            // Each run begins with another setting, and has its own share of numbers that may be.
            TiltLists x = setting(run % 6);
            for (int i = 0; i < CALLS; i++) {
                Method m = face.get(random.nextInt(face.size()));
                int answer = (Integer) m.invoke(x, arguments(m, random, run % 4));
                CHECK.due(m.getName() + " answers no less than may be", answer < TiltLists.NOTHING ? 1 : 0, 0);
            }
        }
        CHECK.end();
    }

    private static List<Method> face() {
        List<Method> all = new ArrayList<>();
        for (Method m : TiltLists.class.getDeclaredMethods()) {
            if (Modifier.isPublic(m.getModifiers())) {
                all.add(m);
            }
        }
        all.sort(Comparator.comparing(Method::getName));
        return all;
    }

    private static TiltLists setting(int which) {
        switch (which) {
            case 0: return new TiltLists();
            case 1: return Settings.fullOfKnights();
            case 2: return Settings.withOrdinances(6);
            case 3: return Settings.withJousts(30);
            case 4: return Settings.withChallenges(7);
            default: return Settings.tourney();
        }
    }

    private static Object[] arguments(Method m, Random random, int wild) {
        Object[] values = new Object[m.getParameterCount()];
        for (int i = 0; i < values.length; i++) {
            if (m.getParameterTypes()[i] == boolean.class) {
                values[i] = random.nextBoolean();
            } else if (random.nextInt(4) < wild) {
                values[i] = Bounds.EDGES[random.nextInt(Bounds.EDGES.length)];
            } else {
                values[i] = random.nextInt(random.nextBoolean() ? 3 : 7);
            }
        }
        return values;
    }
}
