/** Promises 24 to 32, each sentence that names an edge or a refusal: lists, told light. */
public final class EdgesListTest {
    private static final long VOID = FilterPile.VOID;
    private static final int NONE = FilterPile.NONE, BAD = FilterPile.BAD, NOT = FilterPile.NOT, BELOW = FilterPile.BELOW,
        MISSING = FilterPile.MISSING, PLACE = FilterPile.PLACE;
    private static final int MOST = Probe.MOST, LEAST = Probe.LEAST;
    private static final long FAR = Long.MAX_VALUE, FAR_BELOW = Long.MIN_VALUE;
    private static final int[] NO_LIST = {-1, 3, LEAST, MOST};
    private static final int[] NOT_BEHIND_SEVEN = {-1, 8, 9, LEAST, MOST};
    private static final int[] NO_FILTER_OF_SEVEN = {-1, 7, 8, LEAST, MOST};
    private static final int[] NO_LIGHT_PART = {-1, 5, LEAST, MOST};
    /** Rows that tell no LIGHT. */
    private static final long[][] NO_LIGHTS = {{}, {5}, {5, 0, 0, 0}, {-1, 0, 0, 0, 0}, {1000001, 0, 0, 0, 0}, {FAR, 0, 0, 0, 0},
        {FAR_BELOW, 0, 0, 0, 0}, {1L << 32, 0, 0, 0, 0}, {5, 0, 0, 0, -1}, {5, 0, 0, 0, 21}, {5, 0, 0, 0, FAR},
        {5, 0, 0, 0, FAR_BELOW}, {5, 0, 0, 0, 1L << 32}, {5, 6, 0, 0, 0}, {5, -6, 0, 0, 0}, {5, 0, 6, 0, 0}, {5, 0, -6, 0, 0},
        {5, 0, 0, 6, 0}, {5, 0, 0, -6, 0}, {5, 3, 4, 1, 0}, {5, -1, 3, -4, 0}, {0, 0, 0, 1, 20}, {1000000, 1000000, 1, 0, 3},
        // What wraps around to something small, if it is squared or added as a long or cut to an int.
        {0, 1L << 32, 0, 0, 0}, {0, 0, 1L << 32, 1L << 32, 0}, {0, FAR_BELOW, 0, 0, 0}, {5, 0, FAR_BELOW, 0, 0},
        {5, 0, 0, FAR_BELOW, 0}, {5, 0, 0, FAR, 0}, {5, FAR, FAR, FAR, 0}, {0, 1L << 31, 1L << 31, 0, 0},
        {1000000, 3037000500L, 0, 0, 0}, {1000000, 0, -3037000500L, 0, 0}, {2, 1L << 33, 0, 1L << 33, 4}};

    public static void main(String[] args) {
        listNoList();
        listAbove12();
        listBelowMinus1();
        listAt0And12AndMissing();
        putRefused();
        putAtTheEnds();
        getRefused();
        getWhatLooksVoid();
        layRefused();
        layAtTheEnds();
        readingsRefused();
        readingsAsTheyAre();
        refoundRefused();
        refoundReadings();
        refoundPower();
        refoundThatMayBe();
        throughRefused();
        throughAtTheEnds();
        beforeRefused();
        beforeByOtherFilters();
        beforeAtTheEnds();
        foundRefused();
        foundFirstRefusalNamed();
        foundAllAndNone();
        foundFirstAndLast();
        Due.end();
    }

    private static void dueList(String words, FilterPile x, int list, long... want) {
        for (int i = 0; i < want.length; i++) {
            Due.due(words + ", place " + i, x.get(list, i), want[i]);
        }
        Due.due(words + ", behind the last", x.put(list, want.length, 0), PLACE);
    }

    // ---- promise 24

    private static void listNoList() {
        for (int list : NO_LIST) {
            Probe.refused("24 NONE: list " + list, x -> x.list(list, 5), NONE);
            Probe.refused("24 NONE ahead of BAD: list " + list, x -> x.list(list, 13), NONE);
            Probe.refused("24 NONE ahead of BELOW: list " + list, x -> x.list(list, -2), NONE);
        }
    }

    private static void listAbove12() {
        for (int n : new int[] {13, 14, MOST}) {
            Probe.refused("24 BAD: n above 12: " + n, x -> x.list(0, n), BAD);
            Probe.refused("24 BAD: n above 12, missing still: " + n, x -> x.list(2, n), BAD);
        }
    }

    private static void listBelowMinus1() {
        for (int n : new int[] {-2, -3, FilterPile.MISSING, LEAST}) {
            Probe.refused("24 BELOW: n below -1: " + n, x -> x.list(0, n), BELOW);
            Probe.refused("24 BELOW: n below -1, missing still: " + n, x -> x.list(2, n), BELOW);
        }
    }

    private static void listAt0And12AndMissing() {
        FilterPile x = Probe.rich();
        Due.due("24 12 longs", x.list(2, 12), 1);
        dueList("24 all 0", x, 2, 0, 0, 0, 0, 0, 0, 0, 0, 0, 0, 0, 0);
        Due.due("24 12 longs in place of 12", x.list(0, 12), 1);
        dueList("24 all 0, whatever was there", x, 0, 0, 0, 0, 0, 0, 0, 0, 0, 0, 0, 0, 0);
        Due.due("24 no longs", x.list(0, 0), 1);
        dueList("24 no longs, but not missing", x, 0);
        Due.due("24 missing (n -1)", x.list(1, -1), 1);
        Due.due("24 missing", x.put(1, 0, 0), MISSING);
        Due.due("24 missing already", x.list(1, -1), 1);
        Due.due("24 missing", x.get(1, 0), VOID);
        Due.due("24 one long", x.list(1, 1), 1);
        dueList("24 0, whatever was there before it was missing", x, 1, 0);
    }

    // ---- promise 25

    private static void putRefused() {
        for (int list : NO_LIST) {
            Probe.refused("25 NONE: " + list, x -> x.put(list, 0, 7), NONE);
        }
        Probe.refused("25 MISSING", x -> x.put(2, 0, 7), MISSING);
        for (int i : new int[] {-1, 5, 12, LEAST, MOST}) {
            Probe.refused("25 PLACE: " + i, x -> x.put(1, i, 7), PLACE);
            Probe.refused("25 MISSING ahead of PLACE: " + i, x -> x.put(2, i, 7), MISSING);
            Probe.refused("25 NONE ahead of PLACE: " + i, x -> x.put(3, i, 7), NONE);
        }
        Probe.refused("25 PLACE: 12 of twelve", x -> x.put(0, 12, 7), PLACE);
        FilterPile x = new FilterPile();
        x.list(0, 0);
        Due.due("25 PLACE: 0 of none", x.put(0, 0, 7), PLACE);
    }

    private static void putAtTheEnds() {
        FilterPile x = new FilterPile();
        x.list(1, 12);
        Due.due("25 the first place", x.put(1, 0, FAR_BELOW), 1);
        Due.due("25 the last place", x.put(1, 11, FAR), 1);
        Due.due("25 again", x.put(1, 5, -1), 1);
        Due.due("25 again", x.put(1, 5, -2), 1);
        dueList("25 these places alone", x, 1, FAR_BELOW, 0, 0, 0, 0, -2, 0, 0, 0, 0, 0, FAR);
        Due.due("25 the other LISTS are missing still", x.put(0, 0, 1), MISSING);
        Due.due("25 the other LISTS are missing still", x.put(2, 0, 1), MISSING);
    }

    // ---- promise 26

    private static void getRefused() {
        for (int list : NO_LIST) {
            Probe.refused("26 VOID: no such LIST " + list, x -> x.get(list, 0), VOID);
        }
        Probe.refused("26 VOID: missing", x -> x.get(2, 0), VOID);
        for (int i : new int[] {-1, 5, 12, LEAST, MOST}) {
            Probe.refused("26 VOID: no such place " + i, x -> x.get(1, i), VOID);
        }
        Probe.refused("26 VOID: place 12 of twelve", x -> x.get(0, 12), VOID);
        FilterPile x = new FilterPile();
        x.list(0, 0);
        Due.due("26 VOID: place 0 of none", x.get(0, 0), VOID);
    }

    private static void getWhatLooksVoid() {
        FilterPile x = new FilterPile();
        Due.list(x, 0, FAR_BELOW, MISSING);
        Due.due("26 the least long itself", x.get(0, 0), FAR_BELOW);
        Due.due("26 a number like an answer", x.get(0, 1), MISSING);
        Due.due("26 it is no missing LIST", x.put(0, 0, 1), 1);
    }

    // ---- promise 27

    private static void layRefused() {
        for (int list : NO_LIST) {
            Probe.refused("27 NONE: list " + list, x -> x.lay(list, 0), NONE);
        }
        for (int k : NOT_BEHIND_SEVEN) {
            Probe.refused("27 NONE: k " + k, x -> x.lay(0, k), NONE);
            Probe.refused("27 NONE: k, a missing LIST stays missing " + k, x -> x.lay(2, k), NONE);
        }
        Probe.refusedByNew("27 NONE: k 1 without FILTERS", x -> x.lay(0, 1), NONE);
    }

    private static void layAtTheEnds() {
        FilterPile x = Probe.bench(999, 1, 0, 0, "4(s1,4;s0,4)");
        Due.due("27 a missing LIST", x.lay(2, 0), 1);
        dueList("27 k 0: LAMP", x, 2, 999, 1, 0, 0, 0);
        x.list(0, 12);
        x.put(0, 4, 7);
        x.put(0, 5, 7);
        Due.due("27 a LIST of 12", x.lay(0, 8), 1);
        dueList("27 behind all eight, five longs", x, 0, 999, 999, 0, 0, 40);
        x.list(1, 0);
        Due.due("27 a LIST of none", x.lay(1, 0), 1);
        dueList("27 five longs", x, 1, 999, 1, 0, 0, 0);
    }

    // ---- promise 28

    private static void readingsRefused() {
        for (int list : NO_LIST) {
            Probe.refused("28 NONE: " + list, x -> x.readings(list), NONE);
        }
    }

    private static void readingsAsTheyAre() {
        FilterPile x = Probe.bench(16, 4, -8, 12, "");
        Due.due("28 a missing LIST, no FILTERS", x.readings(0), 1);
        dueList("28 as they are, though all are even", x, 0, 20, 8, 12, 28, 1);
        x.list(1, 12);
        Due.read(x, "4(s0,4;s1,4)");
        Due.due("28 a LIST of 12, eight FILTERS", x.readings(1), 1);
        // 20 of I and Q, over 32 by each.
        dueList("28 E and 1 more", x, 1, 5, 10, 5, 5, 39);
        Due.read(x, "y0");
        Due.due("28 dark", x.readings(2), 1);
        dueList("28 dark: E 0 and 1 more", x, 2, 0, 0, 0, 0, 1);
        x = Probe.bench(9, -9, 0, 0, "");
        x.readings(0);
        dueList("28 of what is whole one is 0", x, 0, 0, 9, 18, 9, 1);
    }

    // ---- promise 29

    private static void refoundRefused() {
        for (int list : NO_LIST) {
            Probe.refused("29 VOID: list " + list, x -> x.refound(list, 0), VOID);
        }
        for (int what : new int[] {-1, 6, LEAST, MOST}) {
            FilterPile x = new FilterPile();
            Due.list(x, 0, 1, 1, 1, 1, 1);
            Due.due("29 VOID: what " + what, x.refound(0, what), VOID);
        }
        for (int what = 0; what < 6; what++) {
            int asked = what;
            Probe.refused("29 VOID: it is missing", x -> x.refound(2, asked), VOID);
            Probe.refused("29 VOID: a READING (-2)", x -> x.refound(0, asked), VOID);
        }
    }

    private static void dueRefound(String words, long[] row, long... want) {
        FilterPile x = new FilterPile();
        Due.list(x, 1, row);
        for (int what = 0; what < 6; what++) {
            Due.due("29 " + words + ", refound(1, " + what + ")", x.refound(1, what), want.length == 0 ? VOID : want[what]);
        }
        dueList("29 " + words + ", the LIST stays", x, 1, row);
    }

    private static void refoundReadings() {
        dueRefound("VOID: fewer than five: none", new long[] {});
        dueRefound("VOID: fewer than five: four", new long[] {1, 1, 1, 1});
        dueRefound("five", new long[] {1, 1, 1, 1, 1}, 1, 0, 0, 0, 0, 1);
        dueRefound("twelve, the first five", new long[] {1, 1, 1, 1, 1, -9, -9, -9, -9, -9, -9, -9}, 1, 0, 0, 0, 0, 1);
        for (int place = 0; place < 4; place++) {
            for (long reading : new long[] {-1, 1000001, FAR, FAR_BELOW, 1L << 32}) {
                long[] row = {1, 1, 1, 1, 1};
                row[place] = reading;
                dueRefound("VOID: READING " + place + " is " + reading, row);
            }
        }
        dueRefound("READINGS 0", new long[] {0, 0, 0, 0, 20}, 0, 0, 0, 0, 0, 1);
        dueRefound("READINGS 1000000", new long[] {1000000, 1000000, 1000000, 1000000, 1}, 1000000, 0, 0, 0, 0, 1);
        dueRefound("the first alone", new long[] {1000000, 0, 0, 0, 1}, 500000, 500000, -500000, -500000, 0, 0);
        dueRefound("the second alone", new long[] {0, 1000000, 0, 0, 1}, 0, 0, 1000000, 0, 0, 0);
        dueRefound("the third alone", new long[] {0, 0, 1000000, 0, 1}, 500000, -500000, -500000, -500000, 0, 0);
        dueRefound("the fourth alone", new long[] {0, 0, 0, 1000000, 1}, 0, 0, 0, 1000000, 0, 0);
    }

    private static void refoundPower() {
        for (long e : new long[] {0, -1, 21, FAR, FAR_BELOW, (1L << 32) + 1}) {
            dueRefound("VOID: e " + e, new long[] {1, 1, 1, 1, e});
        }
        dueRefound("e 1", new long[] {2, 1, 1, 1, 1}, 3, 1, -1, -1, 1, 1);
        dueRefound("e 20", new long[] {2, 1, 1, 1, 20}, 3, 1, -1, -1, 20, 1);
        dueRefound("LOWEST form", new long[] {6, 2, 2, 2, 20}, 2, 1, -1, -1, 18, 1);
        dueRefound("LOWEST form ends at E 0", new long[] {12, 8, 4, 8, 2}, 4, 2, 0, 0, 0, 1);
    }

    private static void refoundThatMayBe() {
        dueRefound("MAY not be: 9, 169 and 25 are more than 25", new long[] {4, 9, 1, 5, 3}, 5, 3, 13, 5, 3, 0);
        // Ten, 6, 8, 0 over 16, and beside it.
        dueRefound("MAY be: 36 and 64 are 100", new long[] {8, 9, 2, 5, 4}, 5, 3, 4, 0, 3, 1);
        dueRefound("MAY not be: 36, 64 and 4 are more than 100", new long[] {8, 9, 2, 6, 4}, 5, 3, 4, 1, 3, 0);
        dueRefound("MAY not be: 36, 64 and 4 are more than 100", new long[] {8, 9, 2, 4, 4}, 5, 3, 4, -1, 3, 0);
        dueRefound("MAY be: 36 and 36 are less", new long[] {8, 8, 2, 5, 4}, 5, 3, 3, 0, 3, 1);
        dueRefound("MAY not be: U out of the dark", new long[] {0, 1, 0, 0, 1}, 0, 0, 1, 0, 0, 0);
    }

    // ---- promise 30

    private static void throughRefused() {
        for (int list : NO_LIST) {
            Probe.refused("30 VOID: list " + list, x -> x.through(list, 0), VOID);
        }
        for (int what : NO_LIGHT_PART) {
            Probe.refused("30 VOID: what " + what, x -> x.through(1, what), VOID);
        }
        for (int what = 0; what < 5; what++) {
            int asked = what;
            Probe.refused("30 VOID: it is missing", x -> x.through(2, asked), VOID);
            Probe.refused("30 VOID: it tells no LIGHT", x -> x.through(0, asked), VOID);
        }
        for (long[] row : NO_LIGHTS) {
            FilterPile x = new FilterPile();
            Due.list(x, 0, row);
            for (int what = 0; what < 5; what++) {
                Due.due("30 VOID: it tells no LIGHT", x.through(0, what), VOID);
            }
        }
    }

    private static void dueThrough(String words, String text, long[] row, long... want) {
        FilterPile x = Probe.bench(0, 0, 0, 0, text);
        Due.list(x, 2, row);
        for (int what = 0; what < 5; what++) {
            Due.due("30 " + words + ", through(2, " + what + ")", x.through(2, what), want[what]);
        }
        dueList("30 " + words + ", the LIST stays", x, 2, row);
    }

    private static void throughAtTheEnds() {
        dueThrough("I 0, E 0", "", new long[] {0, 0, 0, 0, 0}, 0, 0, 0, 0, 0);
        dueThrough("I 1000000, E 0", "", new long[] {1000000, 0, 0, -1000000, 0}, 1000000, 0, 0, -1000000, 0);
        dueThrough("I 999999, E 20", "", new long[] {999999, 0, 999999, 0, 20}, 999999, 0, 999999, 0, 20);
        dueThrough("in LOWEST form or not", "", new long[] {1000000, 0, 0, 0, 20}, 15625, 0, 0, 0, 14);
        dueThrough("as much as II", "", new long[] {1000000, 600000, -800000, 0, 0}, 1000000, 600000, -800000, 0, 0);
        dueThrough("the first five of twelve", "g", new long[] {7, -2, -3, -6, 1, FAR, FAR, FAR, FAR, FAR, FAR, FAR}, 7, -2,
            -3, -6, 1);
        dueThrough("eight FILTERS, the greatest E", "4(s0,4;s1,4)", new long[] {999999, 0, 0, 0, 20}, 999999, 0, 999999, 0, 60);
        dueThrough("eight FILTERS, the greatest numbers", "4(2(s0,14))", new long[] {999999, 999999, 0, 0, 20},
            999999L * 43046721, 999999L * 43046721, 0, 0, 52);
        dueThrough("stopped", "p0;p2", new long[] {999999, 0, 0, 0, 20}, 0, 0, 0, 0, 0);
    }

    // ---- promise 31

    private static void beforeRefused() {
        for (int list : NO_LIST) {
            Due.due("31 VOID: list " + list, new FilterPile().before(list, 0), VOID);
        }
        for (int what : NO_LIGHT_PART) {
            FilterPile x = new FilterPile();
            Due.list(x, 0, 5, 3, 4, 0, 0);
            Due.due("31 VOID: what " + what, x.before(0, what), VOID);
        }
        Due.due("31 VOID: it is missing", new FilterPile().before(0, 0), VOID);
        for (long[] row : NO_LIGHTS) {
            FilterPile x = new FilterPile();
            Due.list(x, 0, row);
            for (int what = 0; what < 5; what++) {
                Due.due("31 VOID: it tells no LIGHT", x.before(0, what), VOID);
            }
        }
        for (int what = 0; what < 5; what++) {
            int asked = what;
            Probe.refused("31 VOID: there are other FILTERS", x -> x.before(1, asked), VOID);
        }
    }

    private static void beforeByOtherFilters() {
        // Each would do nothing to this LIGHT, and is refused all the same.
        for (String other : new String[] {"y16", "s0,16", "p0", "f16"}) {
            for (String text : new String[] {other, "g;r1;" + other, other + ";w1,3;r2"}) {
                FilterPile x = Probe.bench(16, 0, 0, 0, text);
                Due.list(x, 0, 5, 5, 0, 0, 0);
                for (int what = 0; what < 5; what++) {
                    Due.due("31 VOID: there are other FILTERS: " + text, x.before(0, what), VOID);
                }
            }
        }
    }

    private static void dueBefore(String words, String text, long[] row, long... want) {
        FilterPile x = Probe.bench(0, 0, 0, 0, text);
        Due.list(x, 2, row);
        for (int what = 0; what < 5; what++) {
            Due.due("31 " + words + ", before(2, " + what + ")", x.before(2, what), want[what]);
        }
        dueList("31 " + words + ", the LIST stays", x, 2, row);
    }

    private static void beforeAtTheEnds() {
        dueBefore("without FILTERS the LIGHT itself", "", new long[] {58, 4, 6, 40, 2}, 29, 2, 3, 20, 1);
        dueBefore("GLASS alone", "4(2(g))", new long[] {58, 4, 6, 40, 1}, 29, 2, 3, 20, 0);
        dueBefore("the greatest", "r1", new long[] {1000000, 1000000, 0, 0, 0}, 1000000, 0, -1000000, 0, 0);
        dueBefore("dark", "r1;w1,3", new long[] {0, 0, 0, 0, 20}, 0, 0, 0, 0, 0);
        dueBefore("the last FILTER first", "r1;w0,1", new long[] {29, 2, 3, 20, 0}, 29, -20, -2, 3, 0);
        for (int f = 0; f <= 16; f++) {
            long[][] rotated = {{2, 3}, {3, -2}, {-2, -3}, {-3, 2}};
            dueBefore("a ROTATOR of any FIGURE", "r" + f, new long[] {29, 2, 3, 20, 0}, 29, rotated[f & 3][0],
                rotated[f & 3][1], 20, 0);
            long[][] turned = {{3, 20}, {-20, 3}, {-3, -20}, {20, -3}};
            dueBefore("a PLATE of any FIGURE", "w0," + f, new long[] {29, 2, 3, 20, 0}, 29, 2, turned[f & 3][0],
                turned[f & 3][1], 0);
        }
        FilterPile x = new FilterPile();
        x.add(0, 3, 7);
        x.add(5, 3, 16);
        Due.list(x, 0, 29, 2, 3, 20, 0);
        Due.due("31 GLASS of any ANGLE and FIGURE", x.before(0, 1), 2);
    }

    // ---- promise 32

    private static void foundRefused() {
        for (int list : NO_LIST) {
            Probe.refused("32 NONE: list " + list, x -> x.found(list, 0, 0), NONE);
        }
        for (int i : NO_FILTER_OF_SEVEN) {
            Probe.refused("32 NONE: i " + i, x -> x.found(1, i, 0), NONE);
        }
        for (int what : new int[] {-1, 3, LEAST, MOST}) {
            Probe.refused("32 NONE: what " + what, x -> x.found(1, 0, what), NONE);
        }
        Probe.refused("32 MISSING", x -> x.found(2, 0, 0), MISSING);
        Probe.refused("32 BAD: it tells no LIGHT", x -> x.found(0, 0, 0), BAD);
        for (long[] row : NO_LIGHTS) {
            FilterPile x = Probe.bench(16, 0, 0, 0, "g");
            Due.list(x, 0, row);
            for (int what = 0; what < 3; what++) {
                Due.due("32 BAD: it tells no LIGHT (fewer than five, too)", x.found(0, 0, what), BAD);
            }
        }
        Probe.refusedByNew("32 NONE: no FILTERS", x -> x.found(0, 0, 0), NONE);
    }

    private static void foundFirstRefusalNamed() {
        Probe.refused("32 NONE (i) ahead of MISSING", x -> x.found(2, 7, 0), NONE);
        Probe.refused("32 NONE (what) ahead of MISSING", x -> x.found(2, 0, 3), NONE);
        Probe.refused("32 NONE (i) ahead of BAD", x -> x.found(0, -1, 0), NONE);
        Probe.refused("32 NONE (what) ahead of BAD", x -> x.found(0, 0, -1), NONE);
    }

    private static void dueFound(String words, FilterPile x, int i, int many, int code, int kinds) {
        Due.due("32 " + words + ", how many", x.found(0, i, 0), many);
        Due.due("32 " + words + ", the least CODE", x.found(0, i, 1), code);
        Due.due("32 " + words + ", KINDS", x.found(0, i, 2), kinds);
    }

    private static void foundAllAndNone() {
        FilterPile x = Probe.bench(0, 0, 0, 0, "y3");
        Due.list(x, 0, 0, 0, 0, 0, 7);
        dueFound("all 476, when LAMP is dark", x, 0, 7 * 4 * 17, 0, 127);
        x = Probe.bench(16, 0, 0, 0, "y3");
        Due.list(x, 0, 17, 0, 0, 0, 0);
        dueFound("NOT: none", x, 0, 0, NOT, 0);
        Due.list(x, 0, 0, 0, 0, 0, 0);
        dueFound("dark: GREYS of 0, SHEETS of 0", x, 0, 8, 1000, 6);
        Due.list(x, 0, 16, 1, 0, 0, 0);
        dueFound("NOT: none adds to what NATURAL light has", x, 0, 0, NOT, 0);
    }

    private static void foundFirstAndLast() {
        FilterPile x = Probe.bench(16, 16, 0, 0, "y5;4(g);2(g);p0");
        // GREY of 5 alone, at each of four ANGLES.
        Due.list(x, 0, 5, 5, 0, 0, 0);
        dueFound("the first of eight", x, 0, 4, 1005, 2);
        // Behind 5, 5: all GLASS, GREYS and FROSTS of 16, the SHEET of 16 and POLARS at 0, PLATES about Q or of no turn, ROTATORS of none.
        dueFound("the last of eight", x, 7, 68 + 4 + 1 + 17 + (2 * 17 + 2 * 5) + 4 * 5 + 4, 0, 127);
        Due.list(x, 0, 5, -5, 0, 0, 0);
        // By half a turn about U, or of Q and U: PLATES at 1 and 3 and all ROTATORS of 2, 6, 10, 14.
        dueFound("the last alone can turn it", x, 7, 2 * 4 + 4 * 4, 4102, 16 + 32);
        dueFound("NOT: none in place of the first, ahead of p0", x, 0, 0, NOT, 0);
        Due.list(x, 0, 80, 0, 0, 0, 4);
        dueFound("told in another form: FROSTS of 0", x, 7, 4, 6000, 64);
        Due.due("32 THE PILE stays", x.of(7, 6), 3000);
    }
}
