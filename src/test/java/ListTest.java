/** Promises 24 to 32: lists, told light. */
public final class ListTest {
    private static final long VOID = FilterPile.VOID;

    public static void main(String[] args) {
        list();
        putAndGet();
        lay();
        readings();
        refound();
        through();
        toldLights();
        before();
        found();
        foundWrong();
        Due.end();
    }

    private static void list() {
        FilterPile x = new FilterPile();
        Due.due("24 list", x.list(-1, 0), FilterPile.NONE);
        Due.due("24 list", x.list(3, 99), FilterPile.NONE);
        Due.due("24 list", x.list(0, 13), FilterPile.BAD);
        Due.due("24 list", x.list(0, Integer.MAX_VALUE), FilterPile.BAD);
        Due.due("24 list", x.list(0, -2), FilterPile.BELOW);
        Due.due("24 list", x.list(0, Integer.MIN_VALUE), FilterPile.BELOW);
        Due.due("24 still missing", x.put(0, 0, 1), FilterPile.MISSING);
        Due.due("24 list", x.list(0, 12), 1);
        for (int i = 0; i < 12; i++) {
            Due.due("24 all 0", x.get(0, i), 0);
            x.put(0, i, i + 1);
        }
        Due.due("24 list", x.list(0, 12), 1);
        Due.due("24 all 0 again", x.get(0, 11), 0);
        x.put(0, 0, 7);
        Due.due("24 list", x.list(0, -1), 1);
        Due.due("24 missing", x.get(0, 0), VOID);
        Due.due("24 missing", x.put(0, 0, 1), FilterPile.MISSING);
        Due.due("24 list", x.list(0, 0), 1);
        Due.due("24 empty, not missing", x.put(0, 0, 1), FilterPile.PLACE);
        Due.due("24 list", x.list(0, 1), 1);
        Due.due("24 all 0", x.get(0, 0), 0);
    }

    private static void putAndGet() {
        FilterPile x = new FilterPile();
        Due.list(x, 2, 5, Long.MAX_VALUE, Long.MIN_VALUE + 1);
        Due.due("25 get", x.get(2, 0), 5);
        Due.due("25 get", x.get(2, 1), Long.MAX_VALUE);
        Due.due("25 get", x.get(2, 2), Long.MIN_VALUE + 1);
        Due.due("25 put", x.put(-1, 0, 1), FilterPile.NONE);
        Due.due("25 put", x.put(3, 0, 1), FilterPile.NONE);
        Due.due("25 put", x.put(0, 99, 1), FilterPile.MISSING);
        Due.due("25 put", x.put(2, 3, 1), FilterPile.PLACE);
        Due.due("25 put", x.put(2, -1, 1), FilterPile.PLACE);
        Due.due("26 get", x.get(2, 3), VOID);
        Due.due("26 get", x.get(2, -1), VOID);
        Due.due("26 get", x.get(3, 0), VOID);
        Due.due("26 get", x.get(-1, 0), VOID);
        Due.due("26 get", x.get(1, 0), VOID);
    }

    private static void dueList(String call, FilterPile x, int list, long... want) {
        for (int i = 0; i < want.length; i++) {
            Due.due(call + ", get(" + list + ", " + i + ")", x.get(list, i), want[i]);
        }
        Due.due(call + ", behind the last", x.get(list, want.length), VOID);
    }

    private static void lay() {
        FilterPile x = new FilterPile();
        x.lamp(7, 1, 2, -3);
        Due.read(x, "y1;y2");
        Due.due("27 lay", x.lay(1, 0), 1);
        dueList("27 lay", x, 1, 7, 1, 2, -3, 0);
        Due.list(x, 1, 9, 9, 9, 9, 9, 9, 9);
        Due.due("27 lay", x.lay(1, 2), 1);
        dueList("27 lay", x, 1, 7, 1, 2, -3, 7);
        Due.due("27 lay", x.lay(3, 0), FilterPile.NONE);
        Due.due("27 lay", x.lay(-1, 0), FilterPile.NONE);
        Due.due("27 lay", x.lay(1, 3), FilterPile.NONE);
        Due.due("27 lay", x.lay(1, -1), FilterPile.NONE);
        dueList("27 lay", x, 1, 7, 1, 2, -3, 7);
    }

    private static void readings() {
        FilterPile x = new FilterPile();
        x.lamp(8, 2, 4, -6);
        Due.due("28 readings", x.readings(0), 1);
        dueList("28 as they are, not lowest", x, 0, 10, 12, 6, 2, 1);
        Due.read(x, "y1;r1");
        Due.list(x, 2, 9, 9, 9, 9, 9, 9);
        Due.due("28 readings", x.readings(2), 1);
        dueList("28 behind all", x, 2, 4 - 2, 4 + 1, 4 + 2, 4 - 3, 4);
        Due.due("28 readings", x.readings(3), FilterPile.NONE);
        Due.due("28 readings", x.readings(-1), FilterPile.NONE);
    }

    private static void dueRefound(String call, FilterPile x, int list, long... want) {
        for (int what = 0; what < 6; what++) {
            Due.due(call + ", refound(" + list + ", " + what + ")", x.refound(list, what), want[what]);
        }
    }

    private static void refound() {
        FilterPile x = new FilterPile();
        x.lamp(7, 1, 2, -3);
        Due.read(x, "y1;r1");
        x.readings(0);
        dueRefound("29 behind all", x, 0, 7, -2, 1, -3, 4, 1);
        Due.list(x, 1, 0, 0, 0, 0, 1);
        dueRefound("29 dark", x, 1, 0, 0, 0, 0, 0, 1);
        Due.list(x, 1, 1000000, 1000000, 1000000, 1000000, 20, -1);
        dueRefound("29 greatest, more than five", x, 1, 15625, 0, 0, 0, 13, 1);
        Due.list(x, 1, 1000000, 1000000, 0, 1000000, 1);
        dueRefound("29 that may not be", x, 1, 500000, 500000, 500000, 500000, 0, 0);
        Due.list(x, 1, 0, 3, 1, 0, 2);
        dueRefound("29 below 0", x, 1, 1, -1, 5, -1, 2, 0);
        long none = Long.MIN_VALUE;
        long[][] wrong = {{-1, 0, 0, 0, 1}, {0, -1, 0, 0, 1}, {0, 0, 1000001, 0, 1}, {0, 0, 0, none, 1},
            {0, 0, 0, Long.MAX_VALUE, 1}, {1, 1, 1, 1, 0}, {1, 1, 1, 1, 21}, {1, 1, 1, 1, 1L << 32 | 1},
            {1, 1, 1, 1}, {}};
        for (long[] row : wrong) {
            Due.list(x, 1, row);
            dueRefound("29 wrong", x, 1, none, none, none, none, none, none);
        }
        dueRefound("29 missing", x, 2, none, none, none, none, none, none);
        Due.due("29 refound", x.refound(3, 0), VOID);
        Due.due("29 refound", x.refound(-1, 0), VOID);
        Due.due("29 refound", x.refound(0, 6), VOID);
        Due.due("29 refound", x.refound(0, -1), VOID);
    }

    private static void dueThrough(String call, FilterPile x, int list, long... want) {
        for (int what = 0; what < 5; what++) {
            Due.due(call + ", through(" + list + ", " + what + ")", x.through(list, what), want[what]);
        }
    }

    private static void through() {
        FilterPile x = new FilterPile();
        Due.list(x, 0, 1000000, 0, 0, 1000000, 20);
        dueThrough("30 none, brought to LOWEST", x, 0, 15625, 0, 0, 15625, 14);
        Due.list(x, 0, 1000000, 999999, 0, 0, 20, 5);
        Due.read(x, "4(2(s0,16))");
        dueThrough("30 eight", x, 0, 1999999, 1999999, 0, 0, 21);
        Due.read(x, "4(2(y15))");
        Due.list(x, 0, 999999, 0, 0, -999999, 20);
        dueThrough("30 many digits", x, 0, 999999L * 2562890625L, 0, 0, -999999L * 2562890625L, 52);
        Due.due("30 LAMP stays", x.light(0, 0), 16);
        dueList("30 the LIST stays", x, 0, 999999, 0, 0, -999999, 20);
        Due.due("30 through", x.through(0, 5), VOID);
        Due.due("30 through", x.through(0, -1), VOID);
        Due.due("30 through", x.through(3, 0), VOID);
        Due.due("30 through", x.through(-1, 0), VOID);
    }

    /** Promises 30, 31, 32: which LISTS tell a LIGHT. */
    private static void toldLights() {
        FilterPile x = new FilterPile();
        x.add(0, 0, 0);
        long most = Long.MAX_VALUE;
        long least = Long.MIN_VALUE;
        long[][] wrong = {{-1, 0, 0, 0, 0}, {1000001, 0, 0, 0, 0}, {5, 6, 0, 0, 0}, {5, 0, -6, 0, 0}, {5, 0, 0, 6, 0},
            {5, 3, 4, 1, 0}, {5, 0, 0, 0, -1}, {5, 0, 0, 0, 21}, {5, 0, 0, 0, 1L << 32}, {5, least, 0, 0, 0},
            {5, 0, most, most, 0}, {0, 1L << 32, 0, 0, 0}, {0, 1L << 31, 1L << 31, 1L << 31, 0}, {5, 0, 0, 0}, {}};
        for (long[] row : wrong) {
            Due.list(x, 0, row);
            for (int what = 0; what < 5; what++) {
                Due.due("30 tells none", x.through(0, what), VOID);
                Due.due("31 tells none", x.before(0, what), VOID);
            }
            for (int what = 0; what < 3; what++) {
                Due.due("32 tells none", x.found(0, 0, what), FilterPile.BAD);
            }
        }
        Due.due("30 missing", x.through(1, 0), VOID);
        Due.due("31 missing", x.before(1, 0), VOID);
        Due.list(x, 0, 5, 3, 0, -4, 0);
        dueThrough("30 just", x, 0, 5, 3, 0, -4, 0);
        Due.list(x, 0, 0, 0, 0, 0, 20);
        dueThrough("30 dark", x, 0, 0, 0, 0, 0, 0);
    }

    private static void before() {
        FilterPile x = new FilterPile();
        Due.list(x, 0, 58, 4, 6, 40, 1);
        String[] piles = {"g", "w0,1", "w1,2", "w2,3", "w3,1;r1", "w0,1;w1,5;g;r3;w3,15;r16;w2,2"};
        long[] told = {29, 2, 3, 20, 0};
        for (String pile : piles) {
            Due.read(x, pile);
            Due.list(x, 1, x.before(0, 0), x.before(0, 1), x.before(0, 2), x.before(0, 3), x.before(0, 4));
            dueThrough("31 back and forth " + pile, x, 1, told);
        }
        Due.read(x, "w0,1;w1,1");
        // Before w1,1 it was 20, 3, -2: it made Q of 0 less V, V of Q. w0,1 made U of V, V of 0 less U.
        long[] back = {29, 20, 2, 3, 0};
        for (int what = 0; what < 5; what++) {
            Due.due("31 before " + what, x.before(0, what), back[what]);
        }
        Due.due("31 before", x.before(0, 5), VOID);
        Due.due("31 before", x.before(0, -1), VOID);
        Due.due("31 before", x.before(3, 0), VOID);
        Due.due("31 before", x.before(-1, 0), VOID);
        for (String other : new String[] {"y16", "s0,16", "p0", "f16"}) {
            Due.read(x, "w0,1;" + other + ";r1");
            Due.due("31 others " + other, x.before(0, 0), VOID);
        }
        x.clear();
        Due.due("31 none", x.before(0, 3), 20);
    }

    private static void dueFound(String call, FilterPile x, int list, int i, int many, int code, int kinds) {
        Due.due("32 " + call + " many", x.found(list, i, 0), many);
        Due.due("32 " + call + " code", x.found(list, i, 1), code);
        Due.due("32 " + call + " kinds", x.found(list, i, 2), kinds);
    }

    private static void found() {
        FilterPile x = new FilterPile();
        x.lamp(16, 16, 0, 0);
        Due.read(x, "y7");
        Due.list(x, 0, 16, 16, 0, 0, 0);
        // By all 68 GLASSES, 4 GREYS of 16, the SHEET of 16 at 0, 17 POLARS at 0, PLATES that turn about Q
        // or not at all, ROTATORS that turn not at all, 4 FROSTS of 16.
        int unchanged = 68 + 4 + 1 + 17 + (2 * 17 + 2 * 5) + 4 * 5 + 4;
        dueFound("unchanged", x, 0, 0, unchanged, 0, 127);
        Due.list(x, 0, 32, 32, 0, 0, 1);
        dueFound("not in LOWEST form", x, 0, 0, unchanged, 0, 127);
        Due.list(x, 0, 7, 7, 0, 0, 0);
        dueFound("a grey alone", x, 0, 0, 4, 1007, 2);
        Due.list(x, 0, 17, 0, 0, 0, 0);
        dueFound("none", x, 0, 0, 0, FilterPile.NOT, 0);
        Due.read(x, "p1;w0,1;r1");
        Due.list(x, 0, 8, 0, 0, -8, 0);
        Due.due("32 behind all", x.light(3, 3), -8);
        // A PLATE that turns U to 0 less V: at 0 by 1, 5, 9, 13; at 2 by 3, 7, 11, 15.
        dueFound("the plate", x, 0, 1, 8, 4001, 16);
        Due.due("32 nothing is changed", x.of(1, 6), 4001);
    }

    private static void foundWrong() {
        FilterPile x = new FilterPile();
        Due.due("32 found", x.found(0, 0, 0), FilterPile.NONE);
        x.add(0, 0, 0);
        Due.due("32 found", x.found(-1, 0, 0), FilterPile.NONE);
        Due.due("32 found", x.found(3, 0, 0), FilterPile.NONE);
        Due.due("32 found", x.found(0, 1, 0), FilterPile.NONE);
        Due.due("32 found", x.found(0, -1, 0), FilterPile.NONE);
        Due.due("32 found", x.found(0, 0, 3), FilterPile.NONE);
        Due.due("32 found", x.found(0, 0, -1), FilterPile.NONE);
        Due.due("32 found", x.found(0, 0, 0), FilterPile.MISSING);
        x.list(0, 4);
        Due.due("32 found", x.found(0, 0, 0), FilterPile.BAD);
        Due.due("32 found", x.found(0, 0, 3), FilterPile.NONE);
    }
}
