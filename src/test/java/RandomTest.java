import java.lang.reflect.Method;
import java.lang.reflect.Modifier;
import java.util.ArrayList;
import java.util.Comparator;
import java.util.List;
import java.util.Random;

/** All promises: runs of up to 512 calls, by chance but always the same, against Model. */
public final class RandomTest {
    private static final int RUNS = 500;
    private static final int CALLS = 512;
    /** So many calls probe() makes. */
    private static final int PROBING = 256;
    private static final int[] EDGES = {-2147483648, -2147483647, -101, -17, -3, -2, -1, 0, 1, 2, 3, 4, 5, 6, 7, 8, 9, 11, 12,
        13, 16, 17, 20, 60, 127, 128, 1000, 1001, 1000000, 2147483647};
    private static final String SIGNS = "gyspwrf0123456789,;()2(2(3;;)) x";

    private final Random chance;
    private final FilterPile x = new FilterPile();
    private final Model model = new Model();
    private final int run;
    private int calls = 0;

    private RandomTest(int run) {
        this.run = run;
        chance = new Random(run);
    }

    public static void main(String[] args) throws ReflectiveOperationException {
        for (int run = 0; run < RUNS; run++) {
            RandomTest test = new RandomTest(run);
            // Every other run ends with all that can be asked of what it left behind.
            test.go(run % 2 == 0 ? CALLS : CALLS - PROBING);
            if (run % 2 != 0) {
                test.probe();
            }
        }
        Due.end();
    }

    private static List<Method> face() {
        List<Method> face = new ArrayList<>();
        for (Method m : FilterPile.class.getDeclaredMethods()) {
            if (Modifier.isPublic(m.getModifiers())) {
                face.add(m);
            }
        }
        face.sort(Comparator.comparing(Method::getName));
        return face;
    }

    private static final List<Method> FACE = face();

    private void call(String name, Object... args) throws ReflectiveOperationException {
        for (Method m : FACE) {
            if (m.getName().equals(name)) {
                call(m, args);
            }
        }
    }

    private void call(Method m, Object... args) throws ReflectiveOperationException {
        Method twin = Model.class.getDeclaredMethod(m.getName(), m.getParameterTypes());
        long got = ((Number) m.invoke(x, args)).longValue();
        long want = ((Number) twin.invoke(model, args)).longValue();
        calls++;
        Due.due("run " + run + ", call " + calls + " " + m.getName() + List.of(args), got, want);
    }

    private void probe() throws ReflectiveOperationException {
        probeState();
        call("read");
        probeState();
        call("undo");
        probeState();
    }

    private void probeState() throws ReflectiveOperationException {
        for (int n = 0; n < 8; n++) {
            call("of", n, 6);
            call("film", n, 0);
            call("why", n / 2, n % 2);
        }
        for (int n = 0; n < 5; n++) {
            call("count", n);
            call("light", 0, n);
        }
        for (int n = 0; n < 3; n++) {
            for (int i = -1; i < 4; i++) {
                call("rack", n, i);
            }
            for (int i = 0; i < 12; i++) {
                call("get", n, i);
            }
        }
    }

    private void go(int most) throws ReflectiveOperationException {
        while (calls < most) {
            switch (chance.nextInt(24)) {
                case 0:
                    call("lamp", lampArgs());
                    break;
                case 1:
                case 2:
                    call("add", chance.nextInt(7), chance.nextInt(4), chance.nextInt(17));
                    break;
                case 3:
                    readText();
                    break;
                case 4:
                    tellLight();
                    break;
                case 5:
                    call("store", chance.nextInt(3), chance.nextInt(4), chance.nextInt(8));
                    break;
                case 6:
                    call("expose", chance.nextInt(8));
                    call("dim", chance.nextInt(8), 1 + chance.nextInt(16));
                    break;
                case 7:
                    askAll();
                    break;
                default:
                    callAny(FACE.get(chance.nextInt(FACE.size())));
                    break;
            }
        }
    }

    private Object[] lampArgs() {
        int i = chance.nextInt(1001);
        return new Object[] {i, upTo(i), upTo(i), upTo(i)};
    }

    private int upTo(int most) {
        return chance.nextInt(3) == 0 ? 0 : chance.nextInt(2 * most + 1) - most;
    }

    private void callAny(Method m) throws ReflectiveOperationException {
        boolean destroys = m.getName().equals("clear") || m.getName().equals("cut") || m.getName().equals("wipe");
        // FOUND is dear in Model.
        if (destroys && chance.nextInt(3) != 0 || m.getName().equals("found") && chance.nextInt(4) != 0) {
            return;
        }
        Object[] args = new Object[m.getParameterCount()];
        for (int n = 0; n < args.length; n++) {
            int value = chance.nextInt(8) == 0 ? EDGES[chance.nextInt(EDGES.length)] : chance.nextInt(7) - (chance.nextInt(9) == 0 ? 1 : 0);
            if (m.getParameterTypes()[n] == long.class) {
                args[n] = chance.nextInt(10) == 0 ? chance.nextLong() : (long) value;
            } else {
                args[n] = value;
            }
        }
        call(m, args);
    }

    private void readText() throws ReflectiveOperationException {
        StringBuilder text = new StringBuilder(text(chance.nextInt(3)));
        if (chance.nextInt(2) == 0) {
            int place = chance.nextInt(text.length() + 1);
            switch (chance.nextInt(3)) {
                case 0:
                    text.setLength(place);
                    break;
                case 1:
                    text.insert(place, SIGNS.charAt(chance.nextInt(SIGNS.length())));
                    break;
                default:
                    text.setCharAt(Math.min(place, text.length() - 1), SIGNS.charAt(chance.nextInt(SIGNS.length())));
                    break;
            }
        }
        for (int n = 0; n < text.length(); n++) {
            call("feed", (int) text.charAt(n));
        }
        call("read");
        for (int n = 0; n < 4; n++) {
            call("why", n, 0);
            call("why", n, 1);
        }
        call("spelled", -1);
        call("spelled", chance.nextInt(20));
    }

    private String text(int depth) {
        StringBuilder text = new StringBuilder();
        int items = 1 + chance.nextInt(depth > 0 ? 2 : 4);
        for (int n = 0; n < items; n++) {
            text.append(n > 0 ? ";" : "");
            if (depth > 0 && chance.nextInt(2) == 0) {
                text.append(2 + chance.nextInt(3)).append('(').append(text(depth - 1 + chance.nextInt(2) * chance.nextInt(2))).append(')');
                continue;
            }
            String figure = (chance.nextInt(9) == 0 ? "0" : "") + chance.nextInt(chance.nextInt(9) == 0 ? 20 : 10);
            int angle = chance.nextInt(4);
            String[] filters = {"g", "y" + figure, "s" + angle + "," + figure, "p" + angle, "w" + angle + "," + figure,
                "r" + figure, "f" + figure};
            text.append(filters[chance.nextInt(7)]);
        }
        return text.toString();
    }

    private void tellLight() throws ReflectiveOperationException {
        int list = chance.nextInt(3);
        if (chance.nextBoolean()) {
            call("lay", list, chance.nextInt(9));
        } else {
            int i = chance.nextInt(1000001);
            call("list", list, 5 + chance.nextInt(3));
            int[] row = {i, upTo(i), upTo(i), upTo(i), chance.nextInt(22)};
            for (int n = 0; n < 5; n++) {
                call("put", list, n, (long) (chance.nextInt(12) == 0 ? 0 : row[n]));
            }
        }
        int what = chance.nextInt(5);
        call("through", list, what);
        call("before", list, what);
        call("refound", list, what);
        call("refound", list, 5);
        call("found", list, chance.nextInt(8), chance.nextInt(3));
    }

    private void askAll() throws ReflectiveOperationException {
        int k = chance.nextInt(9);
        int part = chance.nextInt(2);
        call("sort", k);
        call("degree", k, part);
        call("left", k, part);
        call("without", k, part);
        call("light", k, chance.nextInt(5));
        call("matrix", chance.nextInt(4), chance.nextInt(4), part);
        call("trade", chance.nextInt(8), k);
        call("angle", k, chance.nextInt(3));
        call("order", chance.nextInt(4));
        call("meter", k, part);
        call("why", 0, part);
    }
}
