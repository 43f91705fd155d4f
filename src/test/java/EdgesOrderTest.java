/** Promises 15, 16 and 18 to 23, each sentence that names an edge or a refusal: orders, and what a pile does. */
public final class EdgesOrderTest {
    private static final long VOID = FilterPile.VOID;
    private static final int NONE = FilterPile.NONE, STATE = FilterPile.STATE, NOT = FilterPile.NOT;
    private static final int MOST = Probe.MOST, LEAST = Probe.LEAST;
    private static final int[] NO_FILTER_OF_SEVEN = {-1, 7, 8, LEAST, MOST};

    public static void main(String[] args) {
        orderWithoutFilters();
        orderOfOneAndOfFive();
        orderOfMoreThanFive();
        orderNoWhat();
        orderOfLikeOnesTheFirst();
        orderAsNumbers();
        orderUnlikeAndCommon();
        orderAndAngleAskedAnew();
        orderLightAtTheEnds();
        orderLightRefused();
        tradeWithItself();
        tradeOfBlackOnes();
        tradeNoFilter();
        angleOfLikeOnesTheLeast();
        angleUnlike();
        angleRefused();
        withoutTheOnlyOne();
        withoutRefused();
        darkensAtTheEnds();
        crossedAtTheEnds();
        crossedWhateverLampIs();
        crossedNoWhat();
        tallyWithoutFilters();
        tallyAtTheEnds();
        tallyOfLikeOnesTheFirst();
        tallyNoWhat();
        Due.end();
    }

    private static FilterPile bench(int i, int q, int u, int v, String text) {
        return Probe.bench(i, q, u, v, text);
    }

    private static void dueOrder(String words, FilterPile x, int... want) {
        for (int what = 0; what < 4; what++) {
            Due.due("15 " + words + ", order(" + what + ")", x.order(what), want[what]);
        }
    }

    // ---- promise 15

    private static void orderWithoutFilters() {
        dueOrder("Without FILTERS 0, 0, 1, 1", new FilterPile(), 0, 0, 1, 1);
        FilterPile x = bench(0, 0, 0, 0, "g");
        x.clear();
        dueOrder("Without FILTERS again", x, 0, 0, 1, 1);
    }

    private static void orderOfOneAndOfFive() {
        dueOrder("one", bench(16, 0, 0, 0, "y3"), 1, 1, 1, 1);
        dueOrder("five that all trade", bench(16, 0, 0, 0, "y1;y2;y3;y4;y5"), 12345, 12345, 1, 120);
        dueOrder("five by which all is dark", bench(16, -16, 0, 0, "p0;4(r4)"), 12345, 12345, 1, 120);
    }

    private static void orderOfMoreThanFive() {
        FilterPile x = bench(16, 0, 0, 0, "4(g);g");
        dueOrder("5 at most", x, 12345, 12345, 1, 120);
        x.add(0, 0, 0);
        dueOrder("STATE: six", x, STATE, STATE, STATE, STATE);
        x.cut(0);
        dueOrder("five again", x, 12345, 12345, 1, 120);
        for (int what = 0; what < 4; what++) {
            int asked = what;
            Probe.refused("15 STATE: seven", y -> y.order(asked), STATE);
            Probe.refusedByFull("15 STATE: eight", y -> y.order(asked), STATE);
        }
    }

    private static void orderNoWhat() {
        for (int what : new int[] {-1, 4, LEAST, MOST}) {
            Probe.refusedByNew("15 NONE: what " + what, x -> x.order(what), NONE);
            Probe.refused("15 NONE ahead of STATE: what " + what, x -> x.order(what), NONE);
        }
    }

    private static void orderOfLikeOnesTheFirst() {
        // r2 turns Q to 0 less Q: behind it p0 lets through what it would stop, and stops what it would let through.
        dueOrder("LEAST the first of 123, 132, 312; MOST of 213, 231, 321", bench(16, 16, 0, 0, "r2;p0;g"), 123, 213, 2, 3);
        dueOrder("LEAST the first of 213, 231, 321; MOST of 123, 132, 312", bench(16, -16, 0, 0, "r2;p0;g"), 213, 123, 2, 3);
        // But for p0, p1, p2 all is dark.
        dueOrder("MOST the last of all", bench(16, 16, 0, 0, "p2;p1;p0"), 123, 321, 2, 5);
    }

    private static void orderAsNumbers() {
        // 7 over 2 is less than 4, though 7 is more.
        dueOrder("7 over 2 and 4", bench(6, 2, -1, 0, "r1;p0"), 12, 21, 2, 1);
        dueOrder("4 and 7 over 2", bench(6, 2, -1, 0, "p0;r1"), 21, 12, 2, 1);
        // 5 over 2 is more than 2, and so is 5 than 2.
        dueOrder("5 over 2 and 2", bench(4, 1, 0, 0, "p0;r1"), 21, 12, 2, 1);
    }

    /** No five do more: of SHEETS there are but two sorts that don't trade, and a FROST trades with a ROTATOR. */
    private static void orderUnlikeAndCommon() {
        FilterPile x = bench(30, 6, 13, -2, "p3;s0,6;r14;p0;f1");
        Due.due("15 UNLIKE, the greatest", x.order(2), 78);
        Due.due("15 COMMON of these", x.order(3), 4);
        // One LIGHT with another E is another LIGHT: 16 and 16 over 2.
        x = bench(16, 16, 0, 0, "r1;p0");
        Due.due("15 UNLIKE by E alone", x.order(2), 2);
        // Behind a FROST of 0 there is I alone: 8 if one is ahead of p0 too, else 12; with p0 last it is 8, 8.
        dueOrder("UNLIKE by I alone", bench(16, 8, 0, 0, "f0;p0;f0"), 123, 213, 3, 2);
        dueOrder("all dark", bench(0, 0, 0, 0, "p3;s0,6;r14;p0;f1"), 12345, 12345, 1, 120);
    }

    /** Nothing is left of what was asked before. */
    private static void orderAndAngleAskedAnew() {
        FilterPile x = bench(30, 6, 13, -2, "p3;s0,6;r14;p0;f1");
        Due.due("15 UNLIKE of many", x.order(2), 78);
        dueAngle("asked behind order()", x, 2, 0, 0, 1);
        Due.read(x, "g;p0");
        dueOrder("asked behind others", x, 12, 12, 1, 2);
        dueAngle("asked behind others", x, 1, 1, 3, 4);
        x.lamp(16, 0, 0, 0);
        dueAngle("asked behind another LAMP", x, 1, 0, 0, 4);
        x.lamp(0, 0, 0, 0);
        dueAngle("asked in the dark", x, 1, 0, 0, 1);
        x.lamp(1000, 0, 0, 0);
        dueOrder("asked in the light", x, 12, 12, 1, 2);
        Due.due("16 asked in the light", x.orderLight(0, 0), 500);
        Due.due("16 asked in the light", x.orderLight(1, 0), 500);
    }

    // ---- promise 16

    private static void dueOrderLight(String words, FilterPile x, int which, long... want) {
        for (int what = 0; what < 5; what++) {
            Due.due("16 " + words + ", orderLight(" + which + ", " + what + ")", x.orderLight(which, what), want[what]);
        }
    }

    private static void orderLightAtTheEnds() {
        FilterPile x = bench(16, 15, 1, -2, "");
        dueOrderLight("without FILTERS LAMP itself", x, 0, 16, 15, 1, -2, 0);
        dueOrderLight("without FILTERS LAMP itself", x, 1, 16, 15, 1, -2, 0);
        Due.read(x, "p0;r2;3(g)");
        dueOrderLight("LEAST of five", x, 0, 1, 1, 0, 0, 1);
        dueOrderLight("MOST of five", x, 1, 31, -31, 0, 0, 1);
        x.add(0, 0, 0);
        for (int what = 0; what < 5; what++) {
            Due.due("16 VOID: six", x.orderLight(0, what), VOID);
            Due.due("16 VOID: six", x.orderLight(1, what), VOID);
        }
        x = bench(16, 16, 0, 0, "r2;p0;g");
        dueOrderLight("LEAST is dark", x, 0, 0, 0, 0, 0, 0);
    }

    private static void orderLightRefused() {
        for (int which : new int[] {-1, 2, LEAST, MOST}) {
            Probe.refusedByNew("16 VOID: which " + which, x -> x.orderLight(which, 0), VOID);
        }
        for (int what : new int[] {-1, 5, LEAST, MOST}) {
            Probe.refusedByNew("16 VOID: what " + what, x -> x.orderLight(0, what), VOID);
        }
        Probe.refused("16 VOID: more than 5 FILTERS, seven", x -> x.orderLight(0, 0), VOID);
        Probe.refusedByFull("16 VOID: more than 5 FILTERS, eight", x -> x.orderLight(1, 4), VOID);
    }

    // ---- promise 18

    private static void tradeWithItself() {
        FilterPile x = Probe.full();
        for (int i = 0; i < 8; i++) {
            Due.due("18 i and j may be the same: " + i, x.trade(i, i), 1);
        }
    }

    private static void tradeOfBlackOnes() {
        FilterPile x = bench(0, 0, 0, 0, "y0;s1,0;s1,9;p0;w1,1;r1;f3;g");
        for (int i = 0; i < 8; i++) {
            Due.due("18 a black GREY trades with all: " + i, x.trade(0, i), 1);
            Due.due("18 a black SHEET trades with all: " + i, x.trade(i, 1), 1);
            Due.due("18 GLASS trades with all: " + i, x.trade(7, i), 1);
        }
        Due.due("18 every LIGHT, not LAMP that is dark", x.trade(2, 3), 0);
        // All that is out of I is the same both ways, what is out of V is not.
        x = bench(16, 0, 0, 0, "w0,1;w1,1");
        Due.due("18 every LIGHT, not LAMP that is NATURAL", x.trade(0, 1), 0);
    }

    private static void tradeNoFilter() {
        for (int n : NO_FILTER_OF_SEVEN) {
            Probe.refused("18 NONE: i " + n, x -> x.trade(n, 0), NONE);
            Probe.refused("18 NONE: j " + n, x -> x.trade(0, n), NONE);
            Probe.refused("18 NONE: both, though the same: " + n, x -> x.trade(n, n), NONE);
        }
        Probe.refusedByNew("18 NONE: no FILTERS", x -> x.trade(0, 0), NONE);
    }

    // ---- promise 19

    private static void dueAngle(String words, FilterPile x, int i, int best, int worst, int unlike) {
        Due.due("19 " + words + ", BEST ANGLE", x.angle(i, 0), best);
        Due.due("19 " + words + ", WORST ANGLE", x.angle(i, 1), worst);
        Due.due("19 " + words + ", unlike LIGHTS", x.angle(i, 2), unlike);
    }

    private static void angleOfLikeOnesTheLeast() {
        dueAngle("all four alike in I", bench(16, 0, 0, 0, "p3"), 0, 0, 0, 4);
        dueAngle("BEST of 1 and 2, WORST of 0 and 3", bench(10, -5, 5, 0, "p3"), 0, 1, 0, 4);
        dueAngle("BEST of 0 and 1, WORST of 2 and 3", bench(10, 5, 5, 0, "p3"), 0, 0, 2, 4);
        dueAngle("BEST of 2 and 3, WORST of 0 and 1", bench(10, -5, -5, 0, "p3"), 0, 2, 0, 4);
        dueAngle("the last is BEST", bench(10, 0, -9, 0, "p1"), 0, 3, 1, 4);
        dueAngle("the last is WORST", bench(10, 0, 9, 0, "p3"), 0, 1, 3, 4);
        // 3, 5 over 2, 3, 7 over 2.
        dueAngle("as numbers", bench(6, 0, -1, 0, "p0;g"), 0, 3, 1, 4);
        dueAngle("the last of eight", bench(10, 0, -9, 0, "4(g);3(g);p0"), 7, 3, 1, 4);
    }

    private static void angleUnlike() {
        dueAngle("all dark", bench(0, 0, 0, 0, "p1"), 0, 0, 0, 1);
        dueAngle("a ROTATOR's ANGLE is aside", bench(16, 3, 4, 5, "r1"), 0, 0, 0, 1);
        dueAngle("a PLATE that turns not at all", bench(16, 3, 4, 5, "w3,16"), 0, 0, 0, 1);
        dueAngle("a PLATE that turns by halves", bench(16, 3, 4, 5, "w3,2"), 0, 0, 0, 2);
        dueAngle("dark by one alone", bench(16, -16, 0, 0, "p2"), 0, 2, 0, 4);
        dueAngle("three: alike by 1 and 3", bench(16, 0, 0, 0, "p1;p0"), 0, 0, 2, 3);
    }

    private static void angleRefused() {
        for (int i : NO_FILTER_OF_SEVEN) {
            Probe.refused("19 NONE: i " + i, x -> x.angle(i, 0), NONE);
        }
        for (int what : new int[] {-1, 3, LEAST, MOST}) {
            Probe.refused("19 NONE: what " + what, x -> x.angle(0, what), NONE);
        }
        Probe.refusedByNew("19 NONE: no FILTERS", x -> x.angle(0, 0), NONE);
    }

    // ---- promise 20

    private static void dueWithout(String words, FilterPile x, int i, long above, long below) {
        Due.due("20 " + words + ", above", x.without(i, 0), above);
        Due.due("20 " + words + ", below", x.without(i, 1), below);
    }

    private static void withoutTheOnlyOne() {
        dueWithout("the only one: 1 by 1", bench(7, 0, 0, 0, "y0"), 0, 1, 1);
        dueWithout("dark all the same: 0 by 1", bench(7, 0, 0, 0, "y0;y0"), 1, 0, 1);
        dueWithout("the first of eight", bench(7, 0, 0, 0, "y0;4(y8);3(y8)"), 0, 1, 128);
        dueWithout("the last of eight", bench(7, 0, 0, 0, "4(y8);3(y8);y0"), 7, 1, 128);
    }

    private static void withoutRefused() {
        for (int i : NO_FILTER_OF_SEVEN) {
            Probe.refused("20 VOID: i " + i, x -> x.without(i, 0), VOID);
        }
        for (int part : new int[] {-1, 2, LEAST, MOST}) {
            Probe.refused("20 VOID: part " + part, x -> x.without(0, part), VOID);
        }
        for (int i = 0; i < 7; i++) {
            int asked = i;
            Probe.changesNothing("20 VOID: LAMP's I is 0, above", Probe::dark, x -> x.without(asked, 0), VOID);
            Probe.changesNothing("20 VOID: LAMP's I is 0, below", Probe::dark, x -> x.without(asked, 1), VOID);
        }
        Probe.refusedByNew("20 VOID: no FILTERS", x -> x.without(0, 0), VOID);
    }

    // ---- promise 21

    private static void darkensAtTheEnds() {
        Due.due("21 NOT without FILTERS", new FilterPile().darkens(), NOT);
        Due.due("21 NOT behind eight", bench(1, 0, 0, 0, "4(2(y1))").darkens(), NOT);
        Due.due("21 0 when LAMP is dark", bench(0, 0, 0, 0, "").darkens(), 0);
        Due.due("21 0 when LAMP is dark, with FILTERS", bench(0, 0, 0, 0, "g;y0").darkens(), 0);
        Due.due("21 behind the first", bench(5, 0, 0, 5, "s0,0;g").darkens(), 1);
        Due.due("21 behind the eighth", bench(5, 0, 0, 0, "4(y3);2(y3);p1;p3").darkens(), 8);
        Due.due("21 the least k", bench(5, 0, 0, 0, "p1;p3;g;y0").darkens(), 2);
        Probe.changesNothing("21 NOT", Probe::rich, x -> x.darkens(), NOT);
    }

    // ---- promise 22

    private static void dueCrossed(String words, FilterPile x, int many, int first) {
        Due.due("22 " + words + ", how many", x.crossed(0), many);
        Due.due("22 " + words + ", the first", x.crossed(1), first);
    }

    private static void crossedAtTheEnds() {
        dueCrossed("NOT without FILTERS", new FilterPile(), 0, NOT);
        dueCrossed("NOT with one, be it black", bench(16, 0, 0, 0, "y0"), 0, NOT);
        dueCrossed("NOT, none is crossed", bench(16, 0, 0, 0, "p0;p1;p0;g"), 0, NOT);
        dueCrossed("the first pair", bench(16, 0, 0, 0, "p2;p0"), 1, 1);
        dueCrossed("the last pair", bench(16, 0, 0, 0, "4(g);2(g);p1;p3"), 1, 67);
        dueCrossed("the first by i, then j", bench(16, 0, 0, 0, "g;p1;p0;p3;p2;p3"), 3, 13);
        dueCrossed("all pairs", bench(16, 0, 0, 0, "4(2(y0))"), 28, 1);
    }

    private static void crossedWhateverLampIs() {
        dueCrossed("LAMP is dark", bench(0, 0, 0, 0, "g;g;p0"), 0, NOT);
        dueCrossed("LAMP is stopped by the first", bench(9, -9, 0, 0, "p0;g;p1"), 0, NOT);
        dueCrossed("these two alone", bench(9, 0, 0, 0, "p0;p1;p2"), 1, 2);
    }

    private static void crossedNoWhat() {
        for (int what : new int[] {-1, 2, LEAST, MOST}) {
            Probe.refused("22 NONE: " + what, x -> x.crossed(what), NONE);
        }
        Probe.refused("22 NOT", x -> x.crossed(1), NOT);
    }

    // ---- promise 23

    private static void dueTally(String words, FilterPile x, int unlike, int code, int most) {
        Due.due("23 " + words + ", unlike", x.tally(0), unlike);
        Due.due("23 " + words + ", CODE", x.tally(1), code);
        Due.due("23 " + words + ", how many", x.tally(2), most);
    }

    private static void tallyWithoutFilters() {
        dueTally("without FILTERS 0, NOT, 0", new FilterPile(), 0, NOT, 0);
        FilterPile x = bench(16, 0, 0, 0, "g;g");
        x.clear();
        dueTally("without FILTERS again", x, 0, NOT, 0);
    }

    private static void tallyAtTheEnds() {
        dueTally("one, of CODE 0", bench(16, 0, 0, 0, "g"), 1, 0, 1);
        dueTally("eight alike", bench(16, 0, 0, 0, "4(2(f16))"), 1, 6016, 8);
        dueTally("eight unlike", bench(16, 0, 0, 0, "f1;f2;f3;f4;f5;f6;f7;f8"), 8, 6001, 1);
        FilterPile x = new FilterPile();
        x.add(3, 0, 1);
        x.add(3, 0, 2);
        x.add(5, 3, 2);
        x.add(5, 2, 2);
        dueTally("alike by CODE alone, not by what comes out", x, 4, 3001, 1);
    }

    private static void tallyOfLikeOnesTheFirst() {
        dueTally("that of the least FILTER, not the least CODE", bench(16, 0, 0, 0, "r1;y2;p0;y2;p0;r1;g;g"), 4, 5001, 2);
        dueTally("the last have most", bench(16, 0, 0, 0, "r1;r1;y2;y2;g;3(p3)"), 4, 3300, 3);
    }

    private static void tallyNoWhat() {
        for (int what : new int[] {-1, 3, LEAST, MOST}) {
            Probe.refused("23 NONE: " + what, x -> x.tally(what), NONE);
        }
        Probe.refusedByNew("23 NOT without FILTERS", x -> x.tally(1), NOT);
    }
}
