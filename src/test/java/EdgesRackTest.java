/** Promises 38 to 42, each sentence that names an edge or a refusal: racks. */
public final class EdgesRackTest {
    private static final int NONE = FilterPile.NONE, FULL = FilterPile.FULL, NOT = FilterPile.NOT, PLACE = FilterPile.PLACE,
        KIND = FilterPile.KIND;
    private static final int MOST = Probe.MOST, LEAST = Probe.LEAST;
    private static final int[] NO_RACK = {-1, 3, LEAST, MOST};
    private static final int[] NO_PLACE = {-1, 4, LEAST, MOST};
    private static final int[] NO_FILTER_OF_SEVEN = {-1, 7, 8, LEAST, MOST};
    private static final String[] TAKES = {"0011000", "0000110", "1111111"};

    public static void main(String[] args) {
        storeRefused();
        storeByKinds();
        storeFirstRefusalNamed();
        storeAtTheEnds();
        storedStaysAsItWas();
        emptyRefused();
        emptyOfNothing();
        emptyOfCode0();
        fetchRefused();
        fetchFull();
        fetchFirstRefusalNamed();
        fetchedIsItsOwn();
        rackRefused();
        rackOfNothing();
        rackSorts();
        copyRefused();
        copyOfItself();
        copyOfAnEmptyOne();
        copyOfAFullOne();
        copyTakesWhatItIsACopyOf();
        Due.end();
    }

    /** FILTER i is of KIND i, all at ANGLE 3 with FIGURE 16. */
    private static FilterPile kinds() {
        FilterPile x = new FilterPile();
        for (int kind = 0; kind < 7; kind++) {
            x.add(kind, 3, 16);
        }
        return x;
    }

    // ---- promise 38

    private static void storeRefused() {
        for (int rack : NO_RACK) {
            Probe.refused("38 NONE: rack " + rack, x -> x.store(rack, 0, 2), NONE);
        }
        for (int k : NO_FILTER_OF_SEVEN) {
            Probe.refused("38 NONE: k " + k, x -> x.store(2, 0, k), NONE);
        }
        for (int i : NO_PLACE) {
            Probe.refused("38 PLACE: " + i, x -> x.store(0, i, 2), PLACE);
        }
        Probe.refusedByNew("38 NONE: no FILTERS", x -> x.store(2, 0, 0), NONE);
    }

    private static void storeByKinds() {
        for (int rack = 0; rack < 3; rack++) {
            for (int k = 0; k < 7; k++) {
                int to = rack;
                int from = k;
                if (TAKES[rack].charAt(k) == '1') {
                    Due.due("38 RACK " + rack + " takes KIND " + k, kinds().store(rack, 3, k), 1);
                } else {
                    Probe.refused("38 KIND: RACK " + rack + " does not take " + k, x -> x.store(to, 1, from), KIND);
                }
            }
        }
    }

    private static void storeFirstRefusalNamed() {
        Probe.refused("38 NONE (rack) ahead of PLACE", x -> x.store(3, 4, 0), NONE);
        Probe.refused("38 NONE (k) ahead of PLACE", x -> x.store(0, 4, 7), NONE);
        Probe.refused("38 NONE (k) ahead of KIND", x -> x.store(0, 0, -1), NONE);
        Probe.refused("38 PLACE ahead of KIND", x -> x.store(0, 4, 0), PLACE);
        Probe.refused("38 PLACE ahead of KIND", x -> x.store(1, -1, 0), PLACE);
    }

    private static void storeAtTheEnds() {
        FilterPile x = kinds();
        for (int i = 0; i < 4; i++) {
            Due.due("38 place " + i, x.store(2, i, i), 1);
            Due.due("38 FILTERS in all RACKS", x.count(3), i + 1);
        }
        for (int i = 0; i < 4; i++) {
            Due.due("38 in place of what was there " + i, x.store(2, i, 6 - i), 1);
            Due.due("38 no more of them", x.count(3), 4);
            Due.due("38 what is there now " + i, x.rack(2, i), 1000 * (6 - i) + 316);
        }
        Due.due("38 THE PILE has it too", x.count(0), 7);
        x.add(6, 0, 1);
        Due.due("38 the eighth of THE PILE", x.store(2, 0, 7), 1);
        Due.due("38 the eighth of THE PILE", x.rack(2, 0), 6001);
    }

    private static void storedStaysAsItWas() {
        FilterPile x = kinds();
        x.store(0, 0, 2);
        x.change(2, 0, 0);
        x.change(2, 1, 0);
        x.change(2, 2, 0);
        Due.due("38 it stays as it was when THE PILE's is changed", x.rack(0, 0), 2316);
        x.turn(2, 1);
        x.move(2, 0);
        x.cut(0);
        Due.due("38 it stays when THE PILE's is turned, moved, cut", x.rack(0, 0), 2316);
        x.clear();
        Due.due("38 it stays when THE PILE is cleared", x.rack(0, 0), 2316);
        Due.read(x, "g");
        Due.due("38 it stays when a TEXT is read", x.rack(0, 0), 2316);
    }

    // ---- promise 39

    private static void emptyRefused() {
        for (int rack : NO_RACK) {
            Probe.refused("39 NONE: " + rack, x -> x.empty(rack, 1), NONE);
            Probe.refused("39 NONE ahead of PLACE: " + rack, x -> x.empty(rack, 4), NONE);
        }
        for (int i : NO_PLACE) {
            Probe.refused("39 PLACE: " + i, x -> x.empty(0, i), PLACE);
        }
    }

    private static void emptyOfNothing() {
        Probe.refused("39 NOT: nothing", x -> x.empty(0, 0), NOT);
        Probe.refusedByNew("39 NOT: nothing at first", x -> x.empty(2, 3), NOT);
        FilterPile x = Probe.rich();
        Due.due("39 what it held", x.empty(0, 1), 2109);
        Due.due("39 NOT: nothing any more", x.empty(0, 1), NOT);
        Due.due("39 nothing any more", x.rack(0, 1), NOT);
        Due.due("39 the others stay", x.rack(0, 2), 3200);
        Due.due("39 one less", x.count(3), 4);
    }

    private static void emptyOfCode0() {
        FilterPile x = new FilterPile();
        x.add(0, 0, 0);
        x.store(2, 3, 0);
        Due.due("39 CODE 0 is not nothing", x.count(3), 1);
        Due.due("39 CODE 0 is not nothing", x.empty(2, 3), 0);
        Due.due("39 now it is nothing", x.empty(2, 3), NOT);
        Due.due("39 none is there", x.count(3), 0);
    }

    // ---- promise 40

    private static void fetchRefused() {
        for (int rack : NO_RACK) {
            Probe.refused("40 NONE: " + rack, x -> x.fetch(rack, 1), NONE);
        }
        for (int i : NO_PLACE) {
            Probe.refused("40 PLACE: " + i, x -> x.fetch(0, i), PLACE);
        }
        Probe.refused("40 NOT: there is nothing", x -> x.fetch(0, 0), NOT);
        Probe.refusedByNew("40 NOT: there is nothing at first", x -> x.fetch(2, 3), NOT);
    }

    private static void fetchFull() {
        Probe.refusedByFull("40 FULL", x -> x.fetch(0, 1), FULL);
        FilterPile x = Probe.rich();
        Due.due("40 the eighth", x.fetch(0, 1), 7);
        Due.due("40 it is there", x.of(7, 6), 2109);
        Due.due("40 FULL", x.fetch(0, 1), FULL);
        Due.due("40 the RACK holds it still", x.rack(0, 1), 2109);
    }

    private static void fetchFirstRefusalNamed() {
        Probe.refusedByFull("40 NONE ahead of PLACE", x -> x.fetch(3, 4), NONE);
        Probe.refusedByFull("40 PLACE ahead of FULL", x -> x.fetch(0, 4), PLACE);
        Probe.refusedByFull("40 NOT ahead of FULL", x -> x.fetch(0, 0), NOT);
    }

    private static void fetchedIsItsOwn() {
        FilterPile x = Probe.rich();
        x.clear();
        Due.due("40 the first of an empty pile", x.fetch(0, 2), 0);
        x.turn(0, 1);
        x.change(0, 2, 9);
        Due.due("40 what becomes of it leaves the RACK's as it is", x.rack(0, 2), 3200);
        Due.due("40 again", x.fetch(0, 2), 1);
        Due.due("40 again", x.of(1, 6), 3200);
        x.empty(0, 2);
        Due.due("40 what becomes of the RACK's leaves it as it is", x.of(1, 6), 3200);
        x.add(0, 0, 0);
        x.store(2, 1, 2);
        Due.due("40 CODE 0 is not nothing", x.fetch(2, 1), 3);
    }

    // ---- promise 41

    private static void rackRefused() {
        for (int rack : NO_RACK) {
            Probe.refused("41 NONE: " + rack, x -> x.rack(rack, 1), NONE);
            Probe.refused("41 NONE, with i -1: " + rack, x -> x.rack(rack, -1), NONE);
            Probe.refused("41 NONE ahead of PLACE: " + rack, x -> x.rack(rack, 4), NONE);
        }
        for (int i : new int[] {-2, 4, LEAST, MOST}) {
            Probe.refused("41 PLACE: " + i, x -> x.rack(0, i), PLACE);
        }
    }

    private static void rackOfNothing() {
        Probe.refused("41 NOT: nothing", x -> x.rack(0, 0), NOT);
        FilterPile x = new FilterPile();
        for (int rack = 0; rack < 3; rack++) {
            for (int i = 0; i < 4; i++) {
                Due.due("41 NOT: nothing at first", x.rack(rack, i), NOT);
            }
        }
        x.add(0, 0, 0);
        x.store(2, 0, 0);
        Due.due("41 CODE 0 is not nothing", x.rack(2, 0), 0);
    }

    private static void rackSorts() {
        FilterPile x = new FilterPile();
        for (int rack = 0; rack < 3; rack++) {
            Due.due("41 i -1: as it takes, RACK " + rack, x.rack(rack, -1), rack);
        }
        x = Probe.rich();
        for (int rack = 0; rack < 3; rack++) {
            Due.due("41 i -1: whatever it holds, RACK " + rack, x.rack(rack, -1), rack);
        }
    }

    // ---- promise 42

    private static void copyRefused() {
        for (int rack : NO_RACK) {
            Probe.refused("42 NONE: rack " + rack, x -> x.copy(rack, 0), NONE);
            Probe.refused("42 NONE: other " + rack, x -> x.copy(0, rack), NONE);
            Probe.refused("42 NONE: both " + rack, x -> x.copy(rack, rack), NONE);
        }
    }

    private static void copyOfItself() {
        int[] held = {2, 1, 2};
        for (int rack = 0; rack < 3; rack++) {
            int same = rack;
            Probe.changesNothing("42 of itself: " + rack, Probe::rich, x -> x.copy(same, same), held[rack]);
        }
    }

    private static void dueRack(String words, FilterPile x, int rack, int... want) {
        for (int i = -1; i < 4; i++) {
            Due.due("42 " + words + ", rack(" + rack + ", " + i + ")", x.rack(rack, i), want[i + 1]);
        }
    }

    private static void copyOfAnEmptyOne() {
        FilterPile x = kinds();
        x.store(1, 0, 4);
        x.store(1, 3, 5);
        Due.due("42 of an empty one", x.copy(2, 1), 0);
        dueRack("of an empty one", x, 1, 2, NOT, NOT, NOT, NOT);
        Due.due("42 none is left", x.count(3), 0);
    }

    private static void copyOfAFullOne() {
        FilterPile x = kinds();
        for (int i = 0; i < 4; i++) {
            x.store(2, i, i);
        }
        Due.due("42 of a full one", x.copy(2, 0), 4);
        dueRack("of a full one", x, 0, 2, 316, 1316, 2316, 3316);
        Due.due("42 FILTERS in all RACKS", x.count(3), 8);
        Due.due("42 twelve at most", x.copy(0, 1), 4);
        Due.due("42 twelve at most", x.count(3), 12);
        x.empty(0, 1);
        x.store(0, 2, 6);
        dueRack("a copy has its own places", x, 1, 2, 316, 1316, 2316, 3316);
        dueRack("a copy has its own places", x, 2, 2, 316, 1316, 2316, 3316);
    }

    private static void copyTakesWhatItIsACopyOf() {
        for (int rack = 0; rack < 3; rack++) {
            for (int other = 0; other < 3; other++) {
                FilterPile x = kinds();
                x.copy(rack, other);
                Due.due("42 also by what it takes", x.rack(other, -1), rack);
                for (int k = 0; k < 7; k++) {
                    int want = TAKES[rack].charAt(k) == '1' ? 1 : KIND;
                    Due.due("42 also by what it takes: " + rack + " to " + other, x.store(other, 1, k), want);
                }
            }
        }
        FilterPile x = kinds();
        x.copy(0, 1);
        x.copy(1, 2);
        Due.due("42 a copy of a copy", x.rack(2, -1), 0);
        Due.due("42 a copy of a copy", x.store(2, 0, 0), KIND);
    }
}
