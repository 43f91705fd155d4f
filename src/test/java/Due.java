/** What the tests share: they compare answers, and end with 1 if one was not as due. */
final class Due {
    private static int wrong = 0;
    private static int asked = 0;

    private Due() {
    }

    static void due(String call, long got, long want) {
        asked++;
        if (got != want) {
            wrong++;
            System.out.println(call + " answered " + got + ", due is " + want);
        }
    }

    /** The first numbers of a run of answers, of what 0, 1, .. */
    static void dueLight(String call, FilterPile x, int k, long... want) {
        for (int what = 0; what < want.length; what++) {
            due(call + ", light(" + k + ", " + what + ")", x.light(k, what), want[what]);
        }
    }

    static void feed(FilterPile x, String text) {
        for (int i = 0; i < text.length(); i++) {
            due("feed " + text, x.feed(text.charAt(i)), i + 1);
        }
    }

    static int read(FilterPile x, String text) {
        feed(x, text);
        return x.read();
    }

    static String spelled(FilterPile x) {
        StringBuilder text = new StringBuilder();
        int length = x.spelled(-1);
        for (int i = 0; i < length; i++) {
            text.append((char) x.spelled(i));
        }
        return text.toString();
    }

    static void dueText(String call, String got, String want) {
        asked++;
        if (!got.equals(want)) {
            wrong++;
            System.out.println(call + " answered " + got + ", due is " + want);
        }
    }

    /** WHY as its sorts and numbers, in turn. */
    static void dueWhy(String call, FilterPile x, int... want) {
        due(call + ", count(2)", x.count(2), want.length / 2);
        for (int i = 0; i < want.length; i++) {
            due(call + ", why(" + i / 2 + ", " + i % 2 + ")", x.why(i / 2, i % 2), want[i]);
        }
        due(call + ", why behind the last", x.why(want.length / 2, 0), FilterPile.NOT);
    }

    static void list(FilterPile x, int list, long... values) {
        due("list", x.list(list, values.length), 1);
        for (int i = 0; i < values.length; i++) {
            due("put", x.put(list, i, values[i]), 1);
        }
    }

    static void end() {
        System.out.println(asked + " answers, " + wrong + " not as due");
        if (wrong != 0) {
            System.exit(1);
        }
    }
}
