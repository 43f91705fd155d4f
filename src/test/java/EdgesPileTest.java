/** Promises 1 to 10, each sentence that names an edge or a refusal: the lamp, the pile. */
public final class EdgesPileTest {
    private static final int NONE = FilterPile.NONE, BAD = FilterPile.BAD, FULL = FilterPile.FULL, NOT = FilterPile.NOT;
    private static final int MOST = Probe.MOST, LEAST = Probe.LEAST;
    /** Numbers that no FILTER of an object of seven has. */
    private static final int[] NO_FILTER_OF_SEVEN = {-1, 7, 8, LEAST, MOST};

    public static void main(String[] args) {
        newHasNoFilters();
        newHasTheLamp();
        newHasNothingElse();
        objectsShareNothing();
        lampOutOf0To1000();
        lampAt0And1000();
        lampThatMayNotBe();
        lampThatJustMayBe();
        lampThatWrapsAround();
        lampBySmallNumbers();
        addNoKind();
        addBadAngleOrFigure();
        addLeastAndGreatest();
        addFull();
        addFirstRefusalNamed();
        changeNoFilter();
        changeNoWhat();
        changeBadValue();
        changeToLeastAndGreatest();
        changeFirstRefusalNamed();
        turnByAnyInt();
        turnNoFilter();
        moveToItself();
        moveFromEndToEnd();
        moveNoFilter();
        cutToTheLast();
        cutNoFilter();
        clearEmptyAndFull();
        ofNoFilterNoWhat();
        ofAlongAndAcross();
        ofQuarterTurns();
        ofCode();
        isUnderNoFilterNoKind();
        isUnderUpToGlass();
        Due.end();
    }

    // ---- promise 1

    private static void newHasNoFilters() {
        FilterPile x = new FilterPile();
        Due.due("1 No FILTERS", x.count(0), 0);
        Due.due("1 No FILTERS: of", x.of(0, 6), NONE);
        Due.due("1 No FILTERS: behind 1", x.light(1, 0), FilterPile.VOID);
        Due.due("1 No FILTERS: spelled", x.spelled(-1), 0);
        Due.due("1 No FILTERS: clear", x.clear(), 0);
    }

    private static void newHasTheLamp() {
        Due.dueLight("1 LAMP is 16, 0, 0, 0, E 0", new FilterPile(), 0, 16, 0, 0, 0, 0);
    }

    private static void newHasNothingElse() {
        StringBuilder lists = new StringBuilder();
        for (int list = 0; list < 3; list++) {
            lists.append(" list ").append(list).append(' ').append(FilterPile.MISSING);
            lists.append((" " + FilterPile.VOID).repeat(12));
        }
        String due = "counts 0 0 0 0 0 lamp 16 0 0 0 0 pile" + " -1".repeat(8) + " film" + " 0".repeat(8)
            + " rack 0 0 -5 -5 -5 -5 rack 1 1 -5 -5 -5 -5 rack 2 2 -5 -5 -5 -5" + lists + " why" + " -5".repeat(8);
        Due.dueText("1 a new object", Probe.state(new FilterPile()), due);
        Due.due("1 a new object has no IMAGE", new FilterPile().undo(), FilterPile.STATE);
        Due.due("1 a new object's TAPE is empty", new FilterPile().wipe(), 0);
    }

    private static void objectsShareNothing() {
        String fresh = Probe.whole(new FilterPile());
        FilterPile before = new FilterPile();
        Probe.full();
        Due.dueText("1 made before another was used", Probe.whole(before), fresh);
        Due.dueText("1 made after another was used", Probe.whole(new FilterPile()), fresh);
    }

    // ---- promise 2

    private static void lampOutOf0To1000() {
        for (int i : new int[] {-1, 1001, -1000, LEAST, MOST}) {
            Probe.refused("2 BAD: i 0 .. 1000, not " + i, x -> x.lamp(i, 0, 0, 0), BAD);
        }
        Probe.refused("2 BAD: i 0 .. 1000, not -5 that is as long as Q", x -> x.lamp(-5, 5, 0, 0), BAD);
    }

    private static void lampAt0And1000() {
        FilterPile x = new FilterPile();
        Due.due("2 i 1000", x.lamp(1000, 0, 0, 0), 1);
        Due.dueLight("2 i 1000, all four even, E stays 0", x, 0, 1000, 0, 0, 0, 0);
        Due.due("2 i 0", x.lamp(0, 0, 0, 0), 1);
        Due.dueLight("2 i 0", x, 0, 0, 0, 0, 0, 0);
    }

    private static void lampThatMayNotBe() {
        Probe.refused("2 none that MAY be: Q 1 too far", x -> x.lamp(7, 8, 0, 0), BAD);
        Probe.refused("2 none that MAY be: Q 1 too far below", x -> x.lamp(7, -8, 0, 0), BAD);
        Probe.refused("2 none that MAY be: U 1 too far", x -> x.lamp(7, 0, 8, 0), BAD);
        Probe.refused("2 none that MAY be: U 1 too far below", x -> x.lamp(7, 0, -8, 0), BAD);
        Probe.refused("2 none that MAY be: V 1 too far", x -> x.lamp(7, 0, 0, 8), BAD);
        Probe.refused("2 none that MAY be: V 1 too far below", x -> x.lamp(7, 0, 0, -8), BAD);
        Probe.refused("2 none that MAY be: 50 is more than 49", x -> x.lamp(7, 5, 5, 0), BAD);
        Probe.refused("2 none that MAY be: 50 is more than 49", x -> x.lamp(7, 0, -5, 5), BAD);
        Probe.refused("2 none that MAY be: 50 is more than 49", x -> x.lamp(7, -4, 5, 3), BAD);
        Probe.refused("2 none that MAY be: Q out of the dark", x -> x.lamp(0, 1, 0, 0), BAD);
        Probe.refused("2 none that MAY be: V out of the dark", x -> x.lamp(0, 0, 0, -1), BAD);
        Probe.refused("2 none that MAY be: 1000001 more than a million", x -> x.lamp(1000, 1000, 1, 0), BAD);
    }

    private static void lampThatJustMayBe() {
        int[][] rows = {{7, 7, 0, 0}, {7, -7, 0, 0}, {7, 0, 7, 0}, {7, 0, 0, -7}, {7, -2, 3, -6}, {1000, 600, 0, -800},
            {1000, 0, 0, 1000}};
        for (int[] row : rows) {
            FilterPile x = new FilterPile();
            Due.due("2 no more than II, but as much", x.lamp(row[0], row[1], row[2], row[3]), 1);
            Due.dueLight("2 as much as II", x, 0, row[0], row[1], row[2], row[3], 0);
        }
    }

    /** Squares and sums that are small or below 0, if they wrap around as ints or as longs. */
    private static void lampThatWrapsAround() {
        int[][] rows = {{0, 65536, 0, 0}, {0, 0, -65536, 65536}, {1000, LEAST, 0, 0}, {1000, 0, LEAST, LEAST},
            {1000, LEAST, LEAST, LEAST}, {1000, MOST, MOST, MOST}, {0, 0, 0, LEAST}, {1000, 46341, 0, 0},
            {1000, 0, 1 << 30, 0}, {1, LEAST + 1, MOST, 0}};
        for (int[] row : rows) {
            Probe.refused("2 none that MAY be, by far", x -> x.lamp(row[0], row[1], row[2], row[3]), BAD);
        }
    }

    private static void lampBySmallNumbers() {
        FilterPile x = new FilterPile();
        for (int i = -1; i <= 6; i++) {
            for (int n = 0; n < 15 * 15 * 15; n++) {
                int q = n / 225 - 7;
                int u = n / 15 % 15 - 7;
                int v = n % 15 - 7;
                boolean mayBe = i >= 0 && q * q + u * u + v * v <= i * i;
                // A new one in time: an object is used for 512 calls alone.
                x = n % 500 == 0 ? new FilterPile() : x;
                Due.due("2 lamp " + i + " " + q + " " + u + " " + v, x.lamp(i, q, u, v), mayBe ? 1 : BAD);
            }
        }
    }

    // ---- promise 3

    private static void addNoKind() {
        for (int kind : new int[] {-1, 7, LEAST, MOST}) {
            Probe.refused("3 NONE: kind " + kind, x -> x.add(kind, 0, 0), NONE);
        }
    }

    private static void addBadAngleOrFigure() {
        for (int angle : new int[] {-1, 4, LEAST, MOST}) {
            Probe.refused("3 BAD: angle " + angle, x -> x.add(2, angle, 0), BAD);
        }
        for (int figure : new int[] {-1, 17, 100, LEAST, MOST}) {
            Probe.refused("3 BAD: figure " + figure, x -> x.add(2, 0, figure), BAD);
        }
    }

    private static void addLeastAndGreatest() {
        FilterPile x = new FilterPile();
        Due.due("3 the first is number 0", x.add(0, 0, 0), 0);
        Due.due("3 the next is number 1", x.add(6, 3, 16), 1);
        Due.due("3 KIND, ANGLE, FIGURE as small as they can be", x.of(0, 6), 0);
        Due.due("3 KIND, ANGLE, FIGURE as great as they can be", x.of(1, 6), 6316);
    }

    private static void addFull() {
        FilterPile x = new FilterPile();
        for (int n = 0; n < 8; n++) {
            Due.due("3 8 at most: this is number " + n, x.add(n % 7, 0, n), n);
        }
        Due.due("3 FULL", x.add(0, 0, 0), FULL);
        Due.due("3 FULL: there are 8 still", x.count(0), 8);
        Probe.refusedByFull("3 FULL", y -> y.add(6, 3, 16), FULL);
        x.cut(3);
        Due.due("3 FULL no more when one is cut", x.add(0, 0, 0), 7);
        x.clear();
        Due.due("3 FULL no more when it is cleared", x.add(0, 0, 0), 0);
    }

    private static void addFirstRefusalNamed() {
        Probe.refused("3 NONE ahead of BAD", x -> x.add(7, 4, 17), NONE);
        Probe.refusedByFull("3 NONE ahead of FULL", x -> x.add(-1, 0, 0), NONE);
        Probe.refusedByFull("3 BAD ahead of FULL: angle", x -> x.add(0, 4, 0), BAD);
        Probe.refusedByFull("3 BAD ahead of FULL: figure", x -> x.add(0, 0, 17), BAD);
    }

    // ---- promise 4

    private static void changeNoFilter() {
        for (int i : NO_FILTER_OF_SEVEN) {
            Probe.refused("4 NONE: i " + i, x -> x.change(i, 0, 0), NONE);
        }
        Probe.refusedByNew("4 NONE: no FILTERS", x -> x.change(0, 0, 0), NONE);
        Probe.refusedByFull("4 NONE: 8 of a full pile", x -> x.change(8, 1, 0), NONE);
    }

    private static void changeNoWhat() {
        for (int what : new int[] {-1, 3, LEAST, MOST}) {
            Probe.refused("4 NONE: what " + what, x -> x.change(2, what, 0), NONE);
        }
    }

    private static void changeBadValue() {
        for (int v : new int[] {-1, 7, LEAST, MOST}) {
            Probe.refused("4 BAD: KIND " + v, x -> x.change(2, 0, v), BAD);
        }
        for (int v : new int[] {-1, 4, LEAST, MOST}) {
            Probe.refused("4 BAD: ANGLE " + v, x -> x.change(2, 1, v), BAD);
        }
        for (int v : new int[] {-1, 17, LEAST, MOST}) {
            Probe.refused("4 BAD: FIGURE " + v, x -> x.change(2, 2, v), BAD);
        }
    }

    private static void changeToLeastAndGreatest() {
        FilterPile x = new FilterPile();
        x.add(2, 1, 9);
        x.add(3, 2, 5);
        int[] were = {2, 1, 9};
        int[] greatest = {6, 3, 16};
        for (int what = 0; what < 3; what++) {
            Due.due("4 to the greatest: what it was", x.change(0, what, greatest[what]), were[what]);
            Due.due("4 to itself: what it was", x.change(0, what, greatest[what]), greatest[what]);
        }
        Due.due("4 all are the greatest", x.of(0, 6), 6316);
        for (int what = 0; what < 3; what++) {
            Due.due("4 to 0: what it was", x.change(0, what, 0), greatest[what]);
        }
        Due.due("4 all are 0", x.of(0, 6), 0);
        Due.due("4 the others are as they were", x.of(1, 6), 3205);
    }

    private static void changeFirstRefusalNamed() {
        Probe.refused("4 NONE (i) ahead of BAD", x -> x.change(7, 0, -1), NONE);
        Probe.refused("4 NONE (what) ahead of BAD", x -> x.change(0, 3, -1), NONE);
    }

    // ---- promise 5

    private static void turnByAnyInt() {
        int[] bys = {0, 1, 3, 4, 5, -1, -3, -4, -5, -7, 1000000, -1000001, MOST, MOST - 1, MOST - 2, LEAST, LEAST + 1,
            LEAST + 2};
        for (int angle = 0; angle < 4; angle++) {
            for (int by : bys) {
                FilterPile x = new FilterPile();
                x.add(4, angle, 16);
                long due = (((long) angle + by) % 4 + 4) % 4;
                Due.due("5 any int, modulo 4, never below 0: " + angle + " by " + by, x.turn(0, by), due);
                Due.due("5 the new ANGLE alone is another", x.of(0, 6), 4016 + 100 * due);
            }
        }
    }

    private static void turnNoFilter() {
        for (int i : NO_FILTER_OF_SEVEN) {
            Probe.refused("5 NONE: " + i, x -> x.turn(i, 1), NONE);
        }
        Probe.refusedByNew("5 NONE: no FILTERS", x -> x.turn(0, 1), NONE);
    }

    // ---- promise 6

    private static void moveToItself() {
        for (int i = 0; i < 8; i++) {
            int same = i;
            Probe.changesNothing("6 0, if i is j: " + i, Probe::full, x -> x.move(same, same), 0);
        }
        FilterPile x = new FilterPile();
        x.add(3, 1, 2);
        Due.due("6 the only one", x.move(0, 0), 0);
    }

    private static void dueCodes(String words, FilterPile x, int... codes) {
        Due.due(words + ", count", x.count(0), codes.length);
        for (int i = 0; i < codes.length; i++) {
            Due.due(words + ", FILTER " + i, x.of(i, 6), codes[i]);
        }
    }

    private static FilterPile greys() {
        FilterPile x = new FilterPile();
        for (int n = 0; n < 8; n++) {
            x.add(1, 0, n);
        }
        return x;
    }

    private static void moveFromEndToEnd() {
        FilterPile x = greys();
        Due.due("6 the first of a full pile to the end", x.move(0, 7), 1);
        dueCodes("6 the first to the end", x, 1001, 1002, 1003, 1004, 1005, 1006, 1007, 1000);
        x = greys();
        Due.due("6 the last of a full pile to the front", x.move(7, 0), 1);
        dueCodes("6 the last to the front", x, 1007, 1000, 1001, 1002, 1003, 1004, 1005, 1006);
        x = greys();
        Due.due("6 to the next place", x.move(6, 7), 1);
        dueCodes("6 to the next place", x, 1000, 1001, 1002, 1003, 1004, 1005, 1007, 1006);
        x = greys();
        Due.due("6 to the place before", x.move(1, 0), 1);
        dueCodes("6 to the place before", x, 1001, 1000, 1002, 1003, 1004, 1005, 1006, 1007);
    }

    private static void moveNoFilter() {
        for (int n : NO_FILTER_OF_SEVEN) {
            Probe.refused("6 NONE: either, i " + n, x -> x.move(n, 0), NONE);
            Probe.refused("6 NONE: either, j " + n, x -> x.move(0, n), NONE);
            Probe.refused("6 NONE: both, though i is j: " + n, x -> x.move(n, n), NONE);
        }
        Probe.refusedByFull("6 NONE: behind the last of a full pile", x -> x.move(0, 8), NONE);
        Probe.refusedByNew("6 NONE: no FILTERS", x -> x.move(0, 0), NONE);
    }

    // ---- promise 7

    private static void cutToTheLast() {
        FilterPile x = greys();
        Due.due("7 the last", x.cut(7), 7);
        Due.due("7 the first", x.cut(0), 6);
        dueCodes("7 the others close up", x, 1001, 1002, 1003, 1004, 1005, 1006);
        for (int left = 5; left >= 0; left--) {
            Due.due("7 how many there are", x.cut(0), left);
        }
        Due.due("7 NONE: none is left", x.cut(0), NONE);
        Due.due("7 none is left", x.count(0), 0);
    }

    private static void cutNoFilter() {
        for (int i : NO_FILTER_OF_SEVEN) {
            Probe.refused("7 NONE: " + i, x -> x.cut(i), NONE);
        }
        Probe.refusedByNew("7 NONE: no FILTERS", x -> x.cut(0), NONE);
    }

    // ---- promise 8

    private static void clearEmptyAndFull() {
        Probe.refusedByNew("8 how many there were: none", x -> x.clear(), 0);
        FilterPile x = greys();
        Due.due("8 how many there were: 8", x.clear(), 8);
        Due.due("8 how many there were: none any more", x.clear(), 0);
        Due.due("8 There are no FILTERS", x.count(0), 0);
        Due.due("8 There are no FILTERS", x.of(0, 6), NONE);
    }

    // ---- promise 9

    private static void ofNoFilterNoWhat() {
        for (int i : NO_FILTER_OF_SEVEN) {
            Probe.refused("9 NONE: i " + i, x -> x.of(i, 0), NONE);
            Probe.refused("9 NONE: i " + i + " ahead of all NOT", x -> x.of(i, 5), NONE);
        }
        for (int what : new int[] {-1, 7, LEAST, MOST}) {
            Probe.refused("9 NONE: what " + what, x -> x.of(2, what), NONE);
        }
        Probe.refusedByNew("9 NONE: no FILTERS", x -> x.of(0, 0), NONE);
    }

    private static void ofAlongAndAcross() {
        int[] along = {0, 0, 0, 0, 1, 1, 1, 1, 2, 2, 2, 2, 3, 3, 3, 3, 4};
        int[] across = {0, 1, 2, 3, 0, 1, 2, 3, 0, 1, 2, 3, 0, 1, 2, 3, 0};
        FilterPile x = new FilterPile();
        x.add(2, 0, 0);
        x.add(3, 0, 0);
        for (int f = 0; f <= 16; f++) {
            x.change(0, 2, f);
            x.change(1, 2, f);
            Due.due("9 ALONG is f over 4, cut: " + f, x.of(0, 3), along[f]);
            Due.due("9 ACROSS is f modulo 4: " + f, x.of(0, 4), across[f]);
            Due.due("9 a POLAR's ALONG is 4, whatever FIGURE is: " + f, x.of(1, 3), 4);
            Due.due("9 a POLAR's ACROSS is 0, whatever FIGURE is: " + f, x.of(1, 4), 0);
        }
        for (int kind : new int[] {0, 1, 4, 5, 6}) {
            Probe.refused("9 ALONG of others NOT: KIND " + kind, y -> y.of(kind, 3), NOT);
            Probe.refused("9 ACROSS of others NOT: KIND " + kind, y -> y.of(kind, 4), NOT);
        }
    }

    private static void ofQuarterTurns() {
        FilterPile x = new FilterPile();
        x.add(4, 0, 0);
        x.add(5, 0, 0);
        for (int f = 0; f <= 16; f++) {
            x.change(0, 2, f);
            x.change(1, 2, f);
            Due.due("9 quarter turns are f modulo 4: PLATE " + f, x.of(0, 5), f & 3);
            Due.due("9 quarter turns are f modulo 4: ROTATOR " + f, x.of(1, 5), f & 3);
        }
        for (int kind : new int[] {0, 1, 2, 3, 6}) {
            Probe.refused("9 quarter turns of others NOT: KIND " + kind, y -> y.of(kind, 5), NOT);
        }
    }

    private static void ofCode() {
        FilterPile x = new FilterPile();
        for (int kind = 0; kind < 7; kind++) {
            for (int angle = 0; angle < 4; angle++) {
                for (int figure = 0; figure < 17; figure += 4) {
                    x.clear();
                    x.add(kind, angle, figure);
                    Due.due("9 CODE", x.of(0, 6), 1000 * kind + 100 * angle + figure);
                }
            }
            x = new FilterPile();
        }
    }

    // ---- promise 10

    private static void isUnderNoFilterNoKind() {
        for (int i : NO_FILTER_OF_SEVEN) {
            Probe.refused("10 NONE: i " + i, x -> x.isUnder(i, 0), NONE);
        }
        for (int kind : new int[] {-1, 7, LEAST, MOST}) {
            Probe.refused("10 NONE: kind " + kind, x -> x.isUnder(0, kind), NONE);
        }
        Probe.refusedByNew("10 NONE: no FILTERS", x -> x.isUnder(0, 0), NONE);
    }

    /** A KIND is under itself here, and under all that is over what it is under; nothing is under what is under it. */
    private static void isUnderUpToGlass() {
        FilterPile x = Probe.rich();
        String[] under = {"1000000", "1100000", "1110000", "1111000", "1000100", "1000110", "1100001"};
        for (int i = 0; i < 7; i++) {
            for (int kind = 0; kind < 7; kind++) {
                Due.due("10 KIND " + i + " of " + kind + " or under it", x.isUnder(i, kind), under[i].charAt(kind) - '0');
            }
        }
    }
}
