/** Promises 48 to 50, and what is said of answers, each sentence that names an edge or a refusal: the image, counts. */
public final class EdgesImageTest {
    private static final int NONE = FilterPile.NONE, STATE = FilterPile.STATE;
    private static final int MOST = Probe.MOST, LEAST = Probe.LEAST;

    public static void main(String[] args) {
        imageEmptyAndFull();
        imageChangesNothingElse();
        imageOfImages();
        undoWithoutImage();
        undoTakesAllBack();
        undoTwice();
        undoLeavesListsTapeAndWhy();
        imageIsNoPartOfWhatItHolds();
        countRefused();
        countAtTheEnds();
        runsOf512Calls();
        Due.end();
    }

    // ---- promise 48

    private static void imageEmptyAndFull() {
        Due.due("48 how many FILTERS: none", new FilterPile().image(), 0);
        Due.due("48 how many FILTERS: 8", Probe.full().image(), 8);
        FilterPile x = new FilterPile();
        x.image();
        x.add(0, 0, 0);
        x.lamp(0, 0, 0, 0);
        Due.due("48 an image of a new object", x.undo(), 0);
        Due.dueText("48 an image of a new object", Probe.state(x), Probe.state(new FilterPile()));
    }

    private static void imageChangesNothingElse() {
        FilterPile x = Probe.full();
        String before = Probe.state(x);
        x.image();
        Due.dueText("48 all else is as it was", Probe.state(x), before);
    }

    private static void imageOfImages() {
        FilterPile x = Probe.rich();
        Due.due("48 in place of the one before", x.image(), 7);
        x.clear();
        Due.due("48 in place of the one before", x.undo(), 7);
        x.cut(0);
        Due.due("48 again", x.image(), 6);
        x.clear();
        Due.due("48 again", x.undo(), 6);
    }

    // ---- promise 49

    private static void undoWithoutImage() {
        Probe.refusedByNew("49 STATE: there is none", x -> x.undo(), STATE);
        FilterPile x = Probe.bench(5, 3, 0, 4, "p1;r1");
        x.expose(0);
        String before = Probe.state(x);
        Due.due("49 STATE: there is none", x.undo(), STATE);
        Due.dueText("49 STATE: nothing is changed", Probe.state(x), before);
        Due.due("49 another object's IMAGE is its own", Probe.rich().undo(), 2);
        Due.due("49 another object's IMAGE is its own", x.undo(), STATE);
    }

    private static void spoil(FilterPile x) {
        x.lamp(1000, 0, 0, 1000);
        x.add(6, 3, 16);
        x.change(0, 0, 6);
        x.change(0, 2, 1);
        x.turn(1, 1);
        x.move(0, 2);
        x.cut(1);
        for (int cell = 0; cell < 8; cell++) {
            x.expose(cell);
        }
        x.dim(3, 0);
        x.copy(0, 1);
        x.copy(1, 2);
        x.store(0, 0, 0);
        x.empty(0, 1);
        x.empty(0, 2);
        x.empty(2, 1);
        x.empty(1, 3);
    }

    private static void undoTakesAllBack() {
        FilterPile x = Probe.rich();
        x.image();
        String before = Probe.state(x);
        spoil(x);
        Due.due("49 all is another", Probe.state(x).equals(before) ? 1 : 0, 0);
        Due.due("49 how many FILTERS", x.undo(), 7);
        Due.dueText("49 All is as THE IMAGE", Probe.state(x), before);
        x.clear();
        Due.due("49 out of none", x.undo(), 7);
        Due.dueText("49 out of none", Probe.state(x), before);
    }

    private static void undoTwice() {
        FilterPile x = Probe.rich();
        x.image();
        x.undo();
        String before = Probe.state(x);
        Due.due("49 twice", x.undo(), 7);
        Due.dueText("49 twice", Probe.state(x), before);
        spoil(x);
        Due.due("49 what is spoilt behind undo() leaves THE IMAGE as it is", x.undo(), 7);
        Due.dueText("49 what is spoilt behind undo() leaves THE IMAGE as it is", Probe.state(x), before);
    }

    private static void undoLeavesListsTapeAndWhy() {
        FilterPile x = new FilterPile();
        Due.list(x, 0, 1, 2);
        Due.list(x, 1, 3);
        Due.feed(x, "y1;");
        x.image();
        x.put(0, 1, 7);
        x.list(1, -1);
        x.list(2, 0);
        x.feed('y');
        x.feed('2');
        Due.due("49 undo", x.undo(), 0);
        Due.due("49 LISTS stay: a place", x.get(0, 1), 7);
        Due.due("49 LISTS stay: one is missing", x.put(1, 0, 0), FilterPile.MISSING);
        Due.due("49 LISTS stay: one is empty", x.put(2, 0, 0), FilterPile.PLACE);
        Due.due("49 THE TAPE stays: how many", x.count(1), 5);
        Due.due("49 THE TAPE stays", x.read(), 2);
        Due.dueText("49 THE TAPE stays", Due.spelled(x), "y1;y2");
        x.image();
        Due.read(x, "2(x");
        Due.due("49 undo", x.undo(), 2);
        Due.dueWhy("49 WHY stays", x, 2, 1, 1, 2);
        x.image();
        Due.read(x, "3(3(g))");
        x.undo();
        Due.dueWhy("49 WHY stays", x, 3, 9);
    }

    private static void imageIsNoPartOfWhatItHolds() {
        FilterPile x = new FilterPile();
        x.image();
        x.add(0, 0, 0);
        Due.due("49 undo", x.undo(), 0);
        x.add(1, 0, 0);
        x.add(1, 0, 0);
        Due.due("49 THE IMAGE is there still behind undo()", x.undo(), 0);
    }

    // ---- promise 50

    private static void countRefused() {
        for (int what : new int[] {-1, 5, LEAST, MOST}) {
            Probe.refused("50 NONE: " + what, x -> x.count(what), NONE);
        }
    }

    private static void dueCounts(String words, FilterPile x, int... want) {
        for (int what = 0; what < 5; what++) {
            Due.due("50 " + words + ", count(" + what + ")", x.count(what), want[what]);
        }
    }

    private static void countAtTheEnds() {
        dueCounts("all none", new FilterPile(), 0, 0, 0, 0, 0);
        FilterPile x = new FilterPile();
        Due.read(x, "2(3(4(x");
        x.add(2, 0, 0);
        for (int n = 1; n < 8; n++) {
            x.add(2, 0, 16);
        }
        for (int n = 0; n < 60; n++) {
            x.feed('g');
        }
        for (int i = 0; i < 4; i++) {
            x.store(0, i, 7 - i);
        }
        x.copy(0, 1);
        for (int cell = 0; cell < 8; cell++) {
            x.expose(cell);
        }
        dueCounts("CELLS exposed behind a black SHEET are 0", x, 8, 60, 4, 8, 0);
        x.copy(0, 2);
        x.cut(0);
        for (int cell = 0; cell < 8; cell++) {
            x.expose(cell);
        }
        x.add(0, 0, 0);
        dueCounts("all full", x, 8, 60, 4, 12, 8);
        x.dim(0, 0);
        x.empty(0, 0);
        x.wipe();
        x.cut(0);
        dueCounts("one less, THE TAPE empty", x, 7, 0, 4, 11, 7);
        Due.read(x, "3(3(g))");
        dueCounts("one TROUBLE", x, 7, 0, 1, 11, 7);
    }

    // ---- an object is used for 512 calls

    private static void runsOf512Calls() {
        FilterPile x = new FilterPile();
        for (int n = 0; n < 256; n++) {
            Due.due("3 add, call " + 2 * n, x.add(n % 7, n % 4, n % 17), 0);
            Due.due("7 cut, call " + (2 * n + 1), x.cut(0), 0);
        }
        x = new FilterPile();
        for (int n = 0; n < 256; n++) {
            Due.due("43 feed, call " + 2 * n, x.feed('x'), 1);
            Due.due("45 read, call " + (2 * n + 1), x.read(), -100);
        }
        x = new FilterPile();
        for (int n = 0; n < 256; n++) {
            Due.due("48 image, call " + 2 * n, x.image(), 0);
            Due.due("49 undo, call " + (2 * n + 1), x.undo(), 0);
        }
        x = new FilterPile();
        for (int n = 1; n <= 512; n++) {
            Due.due("34 expose, call " + n, x.expose(0), Float.floatToRawIntBits(16f * n));
        }
    }
}
