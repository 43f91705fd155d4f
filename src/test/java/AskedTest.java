import java.lang.reflect.Method;
import java.lang.reflect.Modifier;
import java.util.Arrays;
import java.util.List;
import java.util.Set;
import java.util.TreeSet;
import java.util.function.Supplier;

/** "What is asked changes nothing": every call that asks, by its promise, with numbers in and out of its ranges. */
public final class AskedTest {
    private static final int[] NUMBERS = {-2, -1, 0, 1, 2, 3, 4, 5, 6, 7, 8, 9, 12};
    private static final int[] FEW_NUMBERS = {-1, 0, 1, 2, 3};
    private static final Set<String> CHANGING = Set.of("lamp", "add", "change", "turn", "move", "cut", "clear", "list", "put",
        "lay", "readings", "expose", "dim", "store", "empty", "fetch", "copy", "feed", "wipe", "read", "image", "undo");
    private static final List<String> ASKING = List.of("9 of", "10 isUnder", "11 light", "12 left", "13 degree", "14 sort",
        "15 order", "16 orderLight", "17 matrix", "18 trade", "19 angle", "20 without", "21 darkens", "22 crossed", "23 tally",
        "26 get", "29 refound", "30 through", "31 before", "32 found", "33 meter", "36 film", "37 sumFilm", "41 rack", "46 why",
        "47 spelled", "50 count");

    public static void main(String[] args) throws ReflectiveOperationException {
        allCallsAreOneOrTheOther();
        List<Supplier<FilterPile>> benches = List.of(FilterPile::new, Probe::rich, Probe::full, AskedTest::five, Probe::dark);
        for (String promise : ASKING) {
            Method call = find(promise.split(" ")[1]);
            for (Supplier<FilterPile> bench : benches) {
                ask(promise, call, bench, Probe.whole(bench.get()), new Object[call.getParameterCount()], 0);
            }
        }
        Due.end();
    }

    private static void allCallsAreOneOrTheOther() {
        Set<String> named = new TreeSet<>(CHANGING);
        ASKING.forEach(promise -> named.add(promise.split(" ")[1]));
        Set<String> face = new TreeSet<>();
        for (Method m : FilterPile.class.getDeclaredMethods()) {
            if (Modifier.isPublic(m.getModifiers())) {
                face.add(m.getName());
            }
        }
        Due.dueText("the face", face.toString(), named.toString());
    }

    private static Method find(String name) {
        return Arrays.stream(FilterPile.class.getDeclaredMethods()).filter(m -> m.getName().equals(name)).findFirst().get();
    }

    /** Of so few FILTERS there are ORDERS. */
    private static FilterPile five() {
        FilterPile x = Probe.rich();
        x.cut(0);
        x.cut(0);
        return x;
    }

    private static void ask(String promise, Method call, Supplier<FilterPile> bench, String whole, Object[] args, int given)
            throws ReflectiveOperationException {
        if (given < args.length) {
            for (int number : args.length > 2 ? FEW_NUMBERS : NUMBERS) {
                args[given] = number;
                ask(promise, call, bench, whole, args, given + 1);
            }
            return;
        }
        FilterPile x = bench.get();
        long first = ((Number) call.invoke(x, args)).longValue();
        long again = ((Number) call.invoke(x, args)).longValue();
        Due.due(promise + Arrays.toString(args) + " asked twice", again, first);
        Due.dueText(promise + Arrays.toString(args) + " changes nothing", Probe.whole(x), whole);
    }
}
