/** Promises 38 to 42: racks. */
public final class RackTest {
    public static void main(String[] args) {
        whatTheyTake();
        store();
        empty();
        fetch();
        rack();
        copy();
        Due.end();
    }

    private static FilterPile bench() {
        FilterPile x = new FilterPile();
        for (int kind = 0; kind < 7; kind++) {
            x.add(kind, 3, 16);
        }
        return x;
    }

    private static void whatTheyTake() {
        FilterPile x = bench();
        String[] takes = {"0011000", "0000110", "1111111"};
        for (int rack = 0; rack < 3; rack++) {
            for (int k = 0; k < 7; k++) {
                boolean taken = takes[rack].charAt(k) == '1';
                Due.due("38 store(" + rack + ", 0, " + k + ")", x.store(rack, 0, k), taken ? 1 : FilterPile.KIND);
            }
        }
        Due.due("38 the last that it took", x.rack(0, 0), 3316);
        Due.due("38 the last that it took", x.rack(1, 0), 5316);
        Due.due("38 the last that it took", x.rack(2, 0), 6316);
    }

    private static void store() {
        FilterPile x = bench();
        Due.due("38 store", x.store(2, 1, 4), 1);
        x.turn(4, 2);
        Due.due("38 as it was then", x.rack(2, 1), 4316);
        Due.due("38 in THE PILE too", x.of(4, 6), 4116);
        x.cut(4);
        Due.due("38 as it was then", x.rack(2, 1), 4316);
        Due.due("38 in place of it", x.store(2, 1, 0), 1);
        Due.due("38 in place of it", x.rack(2, 1), 316);
        Due.due("38 store", x.store(3, 9, 9), FilterPile.NONE);
        Due.due("38 store", x.store(-1, 0, 0), FilterPile.NONE);
        Due.due("38 store", x.store(2, 9, 6), FilterPile.NONE);
        Due.due("38 store", x.store(2, 0, -1), FilterPile.NONE);
        Due.due("38 store", x.store(0, 4, 0), FilterPile.PLACE);
        Due.due("38 store", x.store(0, -1, 0), FilterPile.PLACE);
        Due.due("38 store", x.store(0, 3, 0), FilterPile.KIND);
        Due.due("38 count", x.count(3), 1);
    }

    private static void empty() {
        FilterPile x = new FilterPile();
        x.add(0, 0, 0);
        x.store(2, 3, 0);
        Due.due("39 empty", x.empty(2, 2), FilterPile.NOT);
        Due.due("39 CODE 0 is no nothing", x.empty(2, 3), 0);
        Due.due("39 empty", x.empty(2, 3), FilterPile.NOT);
        Due.due("39 empty", x.empty(3, 0), FilterPile.NONE);
        Due.due("39 empty", x.empty(-1, 9), FilterPile.NONE);
        Due.due("39 empty", x.empty(0, 4), FilterPile.PLACE);
        Due.due("39 empty", x.empty(0, -1), FilterPile.PLACE);
    }

    private static void fetch() {
        FilterPile x = bench();
        x.store(0, 3, 2);
        Due.due("40 fetch", x.fetch(0, 3), 7);
        Due.due("40 fetched", x.of(7, 6), 2316);
        Due.due("40 still there", x.rack(0, 3), 2316);
        Due.due("40 full", x.fetch(0, 3), FilterPile.FULL);
        Due.due("40 nothing, though full", x.fetch(0, 2), FilterPile.NOT);
        Due.due("40 fetch", x.fetch(0, 4), FilterPile.PLACE);
        Due.due("40 fetch", x.fetch(0, -1), FilterPile.PLACE);
        Due.due("40 fetch", x.fetch(3, 4), FilterPile.NONE);
        Due.due("40 fetch", x.fetch(-1, 0), FilterPile.NONE);
        x.clear();
        Due.due("40 fetch", x.fetch(0, 3), 0);
        x.turn(0, 1);
        Due.due("40 its own", x.rack(0, 3), 2316);
        x.add(0, 0, 0);
        x.store(2, 0, 1);
        Due.due("40 CODE 0 is no nothing", x.fetch(2, 0), 2);
    }

    private static void rack() {
        FilterPile x = bench();
        x.store(1, 2, 5);
        Due.due("41 rack", x.rack(1, 2), 5316);
        Due.due("41 rack", x.rack(1, 1), FilterPile.NOT);
        for (int rack = 0; rack < 3; rack++) {
            Due.due("41 sort", x.rack(rack, -1), rack);
        }
        Due.due("41 rack", x.rack(1, -2), FilterPile.PLACE);
        Due.due("41 rack", x.rack(1, 4), FilterPile.PLACE);
        Due.due("41 rack", x.rack(3, -1), FilterPile.NONE);
        Due.due("41 rack", x.rack(-1, 9), FilterPile.NONE);
    }

    private static void copy() {
        FilterPile x = bench();
        x.store(0, 0, 2);
        x.store(0, 2, 3);
        x.store(2, 1, 0);
        x.store(2, 2, 1);
        x.store(2, 3, 6);
        Due.due("42 copy", x.copy(0, 2), 2);
        int[] due = {2316, FilterPile.NOT, 3316, FilterPile.NOT};
        for (int i = 0; i < 4; i++) {
            Due.due("42 copied " + i, x.rack(2, i), due[i]);
        }
        Due.due("42 what it takes", x.rack(2, -1), 0);
        Due.due("42 what it takes", x.store(2, 1, 0), FilterPile.KIND);
        Due.due("42 what it takes", x.store(2, 1, 3), 1);
        Due.due("42 its own", x.rack(0, 1), FilterPile.NOT);
        Due.due("42 copy of itself", x.copy(2, 2), 3);
        Due.due("42 copy of an empty one", x.copy(1, 0), 0);
        Due.due("42 copy", x.rack(0, -1), 1);
        Due.due("42 copy", x.copy(3, 0), FilterPile.NONE);
        Due.due("42 copy", x.copy(0, 3), FilterPile.NONE);
        Due.due("42 copy", x.copy(-1, 0), FilterPile.NONE);
        Due.due("42 copy", x.copy(0, -1), FilterPile.NONE);
    }
}
