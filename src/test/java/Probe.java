import java.util.function.Supplier;

/** All that can be asked of an object as one text, so that two objects can be held against each other. */
final class Probe {
    static final int MOST = Integer.MAX_VALUE;
    static final int LEAST = Integer.MIN_VALUE;

    /** A call with its arguments. */
    interface Call {
        long on(FilterPile x);
    }

    private Probe() {
    }

    /** An object of which every part holds something, THE IMAGE something else; FILTER i is of KIND i. */
    static FilterPile rich() {
        FilterPile x = new FilterPile();
        x.lamp(7, 2, 3, 6);
        Due.read(x, "w1,3;y5");
        x.expose(7);
        x.store(1, 3, 0);
        x.store(2, 0, 1);
        x.image();
        x.lamp(9, -4, 0, 8);
        Due.read(x, "g;y7;s1,9;p2;w3,5;r6;f11");
        x.expose(0);
        x.dim(0, 9);
        x.expose(3);
        x.store(0, 1, 2);
        x.store(0, 2, 3);
        x.store(2, 3, 6);
        Due.list(x, 0, 1, -2, 3, -4, 5, -6, 7, -8, 9, -10, 11, Long.MAX_VALUE);
        Due.list(x, 1, 12, 4, -6, 2, 3);
        Due.read(x, "2(3(x");
        Due.feed(x, "2(p1;r07);f16");
        return x;
    }

    static FilterPile full() {
        FilterPile x = rich();
        Due.due("an eighth", x.add(0, 2, 3), 7);
        return x;
    }

    static FilterPile dark() {
        FilterPile x = rich();
        Due.due("dark", x.lamp(0, 0, 0, 0), 1);
        return x;
    }

    /** A new object with this LAMP and what this TEXT tells. */
    static FilterPile bench(int i, int q, int u, int v, String text) {
        FilterPile x = new FilterPile();
        Due.due("lamp", x.lamp(i, q, u, v), 1);
        if (!text.isEmpty()) {
            Due.due("read " + text, Math.min(0, Due.read(x, text)), 0);
        }
        return x;
    }

    /** By asking alone. */
    static String state(FilterPile x) {
        StringBuilder text = new StringBuilder("counts");
        for (int what = 0; what < 5; what++) {
            text.append(' ').append(x.count(what));
        }
        text.append(" lamp");
        for (int what = 0; what < 5; what++) {
            text.append(' ').append(x.light(0, what));
        }
        text.append(" pile");
        for (int i = 0; i < 8; i++) {
            text.append(' ').append(x.of(i, 6));
        }
        text.append(" film");
        for (int cell = 0; cell < 8; cell++) {
            text.append(' ').append(x.film(cell, 0));
        }
        for (int n = 0; n < 3; n++) {
            text.append(" rack ").append(n);
            for (int i = -1; i < 4; i++) {
                text.append(' ').append(x.rack(n, i));
            }
        }
        lists(x, text);
        text.append(" why");
        for (int i = 0; i < 4; i++) {
            text.append(' ').append(x.why(i, 0)).append(' ').append(x.why(i, 1));
        }
        return text.toString();
    }

    private static void lists(FilterPile x, StringBuilder text) {
        for (int n = 0; n < 3; n++) {
            // No LIST has a place 12: this tells a missing one from an empty one.
            text.append(" list ").append(n).append(' ').append(x.put(n, 12, 0));
            for (int i = 0; i < 12; i++) {
                text.append(' ').append(x.get(n, i));
            }
        }
    }

    /** With THE TAPE (by reading it) and THE IMAGE (by taking it back): the end of an object's run. */
    static String whole(FilterPile x) {
        StringBuilder text = new StringBuilder(state(x));
        text.append("\nread ").append(x.read()).append(' ').append(state(x));
        return text.append("\nundo ").append(x.undo()).append(' ').append(state(x)).toString();
    }

    /** The call answers so, and the object is behind it as it would be without it. */
    static void changesNothing(String words, Supplier<FilterPile> bench, Call call, long want) {
        FilterPile x = bench.get();
        Due.due(words, call.on(x), want);
        Due.dueText(words + " (and nothing is changed)", whole(x), whole(bench.get()));
    }

    /** On an object of which every part holds something. */
    static void refused(String words, Call call, long want) {
        changesNothing(words, Probe::rich, call, want);
    }

    static void refusedByFull(String words, Call call, long want) {
        changesNothing(words, Probe::full, call, want);
    }

    static void refusedByNew(String words, Call call, long want) {
        changesNothing(words, FilterPile::new, call, want);
    }
}
