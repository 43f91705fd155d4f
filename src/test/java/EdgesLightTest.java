/** Promises 11 to 14 and 17, and the terms they rest on, each sentence that names an edge or a refusal: light. */
public final class EdgesLightTest {
    private static final long VOID = FilterPile.VOID;
    private static final int NONE = FilterPile.NONE, OVER = FilterPile.OVER;
    private static final int MOST = Probe.MOST, LEAST = Probe.LEAST;
    /** The greatest number whose square is a long, and its square. */
    private static final long ROOT = 3037000499L, SQUARE = 9223372030926249001L;
    private static final int[] NOT_BEHIND_SEVEN = {-1, 8, 9, LEAST, MOST};
    private static final int[] NO_PART = {-1, 2, LEAST, MOST};

    public static void main(String[] args) {
        lowestFormEndsAtE0();
        lowestFormEndsAtAnOddOne();
        lowestFormOfNothing();
        greyAndFrostAt0And16();
        sheetsAtTheEndsOfFigures();
        polarsWhateverFigureIs();
        platesModuloFour();
        rotatorsModuloFourAngleAside();
        lightBehindNoneAndAll();
        lightOfEightFilters();
        lightRefused();
        leftRefused();
        leftAtTheEnds();
        degreeRefused();
        degreeAtTheEnds();
        degreeOfTheDark();
        degreeRefusedAheadOfOver();
        sortRefused();
        sortsSideBySide();
        sortOfGreatNumbers();
        overOfII();
        overOfQQ();
        overOfUU();
        overOfVV();
        overOfTwo();
        overOfThree();
        overOfWhatIsDivided();
        overChangesWhyAlone();
        matrixRefused();
        matrixNumbersByThemselves();
        Due.end();
    }

    // ---- LOWEST form

    private static void dueThrough(String words, FilterPile x, long... want) {
        for (int what = 0; what < 5; what++) {
            Due.due(words + ", part " + what, x.through(0, what), want[what]);
        }
    }

    private static void dueLowest(String words, long[] told, long... want) {
        FilterPile x = new FilterPile();
        Due.list(x, 0, told);
        dueThrough("11 LOWEST form: " + words, x, want);
    }

    private static void lowestFormEndsAtE0() {
        dueLowest("E 0, all even", new long[] {16, 8, 4, 2, 0}, 16, 8, 4, 2, 0);
        dueLowest("E comes to 0 while all are even", new long[] {48, 16, 16, 16, 2}, 12, 4, 4, 4, 0);
        Due.dueLight("11 LOWEST form: LAMP, all even", Probe.bench(16, 8, 4, 2, "g;y16"), 2, 16, 8, 4, 2, 0);
    }

    private static void lowestFormEndsAtAnOddOne() {
        dueLowest("I odd", new long[] {9, 2, 4, 6, 5}, 9, 2, 4, 6, 5);
        dueLowest("Q odd", new long[] {10, 3, 4, 6, 5}, 10, 3, 4, 6, 5);
        dueLowest("U odd", new long[] {10, 2, 3, 6, 5}, 10, 2, 3, 6, 5);
        dueLowest("V odd", new long[] {10, 2, 4, 5, 5}, 10, 2, 4, 5, 5);
        dueLowest("odd below 0", new long[] {10, -1, 4, 6, 5}, 10, -1, 4, 6, 5);
        dueLowest("below 0", new long[] {20, -6, -8, -4, 5}, 10, -3, -4, -2, 4);
        dueLowest("halved to an odd one", new long[] {8, 0, 0, 4, 20}, 2, 0, 0, 1, 18);
    }

    private static void lowestFormOfNothing() {
        dueLowest("0, 0, 0, 0 comes to E 0", new long[] {0, 0, 0, 0, 20}, 0, 0, 0, 0, 0);
        Due.dueLight("11 LOWEST form: what a black GREY leaves", Probe.bench(9, 1, 2, 3, "y1;y0"), 2, 0, 0, 0, 0, 0);
        Due.dueLight("11 LOWEST form: the dark goes on", Probe.bench(0, 0, 0, 0, "y1;s0,9;f3"), 3, 0, 0, 0, 0, 0);
    }

    // ---- FILTERS at the ends of their FIGURES

    private static void dueBehind(String text, long... want) {
        Due.dueLight("11 " + text, Probe.bench(29, 2, 3, 20, text), 1, want);
    }

    private static void greyAndFrostAt0And16() {
        dueBehind("y0", 0, 0, 0, 0, 0);
        dueBehind("y1", 29, 2, 3, 20, 4);
        dueBehind("y15", 29 * 15, 2 * 15, 3 * 15, 20 * 15, 4);
        dueBehind("y16", 29, 2, 3, 20, 0);
        dueBehind("f0", 29, 0, 0, 0, 0);
        dueBehind("f1", 29 * 16, 2, 3, 20, 4);
        dueBehind("f15", 29 * 16, 2 * 15, 3 * 15, 20 * 15, 4);
        dueBehind("f16", 29, 2, 3, 20, 0);
    }

    private static void sheetsAtTheEndsOfFigures() {
        dueBehind("s0,0", 0, 0, 0, 0, 0);
        dueBehind("s3,0", 0, 0, 0, 0, 0);
        // ALONG 0, ACROSS 3: P comes out below 0, by ANGLE 2 that is Q above 0.
        dueBehind("s0,3", 9 * 27, -9 * 27, 0, 0, 5);
        dueBehind("s2,3", 9 * 31, 9 * 31, 0, 0, 5);
        dueBehind("s1,3", 9 * 26 / 2, 0, -9 * 26 / 2, 0, 4);
        dueBehind("s3,3", 9 * 32 / 32, 0, 9 * 32 / 32, 0, 0);
        // ALONG 1, ACROSS 0: the least that lets through along.
        dueBehind("s0,4", 31, 31, 0, 0, 5);
        // ALONG and ACROSS 3: a grey of 9 over 16.
        dueBehind("s0,15", 29 * 9, 2 * 9, 3 * 9, 20 * 9, 4);
        dueBehind("s1,15", 29 * 9, 2 * 9, 3 * 9, 20 * 9, 4);
        dueBehind("s2,15", 29 * 9, 2 * 9, 3 * 9, 20 * 9, 4);
        dueBehind("s3,15", 29 * 9, 2 * 9, 3 * 9, 20 * 9, 4);
        dueBehind("s2,16", 27, -27, 0, 0, 1);
    }

    private static void polarsWhateverFigureIs() {
        long[][] due = {{31, 31, 0, 0, 1}, {16, 0, 16, 0, 0}, {27, -27, 0, 0, 1}, {13, 0, -13, 0, 0}};
        for (int angle = 0; angle < 4; angle++) {
            for (int figure = 0; figure <= 16; figure++) {
                FilterPile x = Probe.bench(29, 2, 3, 20, "");
                x.add(3, angle, figure);
                Due.dueLight("11 POLAR, whatever FIGURE is: " + angle + ", " + figure, x, 1, due[angle]);
            }
        }
    }

    private static void platesModuloFour() {
        long[][][] due = {{{2, 3, 20}, {2, 20, -3}, {2, -3, -20}, {2, -20, 3}},
            {{2, 3, 20}, {-20, 3, 2}, {-2, 3, -20}, {20, 3, -2}},
            {{2, 3, 20}, {2, -20, 3}, {2, -3, -20}, {2, 20, -3}},
            {{2, 3, 20}, {20, 3, -2}, {-2, 3, -20}, {-20, 3, 2}}};
        for (int angle = 0; angle < 4; angle++) {
            for (int f = 0; f <= 16; f++) {
                long[] out = due[angle][f & 3];
                dueBehind("w" + angle + "," + f, 29, out[0], out[1], out[2], 0);
            }
        }
    }

    private static void rotatorsModuloFourAngleAside() {
        long[][] due = {{2, 3}, {-3, 2}, {-2, -3}, {3, -2}};
        for (int angle = 0; angle < 4; angle++) {
            for (int f = 0; f <= 16; f++) {
                FilterPile x = Probe.bench(29, 2, 3, 20, "");
                x.add(5, angle, f);
                Due.dueLight("11 ROTATOR, ANGLE aside: " + angle + ", " + f, x, 1, 29, due[f & 3][0], due[f & 3][1], 20, 0);
            }
        }
    }

    // ---- promise 11

    private static void lightBehindNoneAndAll() {
        FilterPile x = Probe.bench(5, 0, 3, -4, "");
        Due.dueLight("11 k 0: LAMP itself, without FILTERS", x, 0, 5, 0, 3, -4, 0);
        Due.read(x, "r1;y1");
        Due.dueLight("11 k 0: LAMP itself", x, 0, 5, 0, 3, -4, 0);
        Due.dueLight("11 FILTER 0 first", x, 1, 5, -3, 0, -4, 0);
        Due.dueLight("11 behind all", x, 2, 5, -3, 0, -4, 4);
    }

    private static void lightOfEightFilters() {
        // By turns at 0 and 1 nothing of what was Q or U is left, and I is halved five times by each.
        Due.dueLight("11 the greatest E", Probe.bench(999, 0, 0, 0, "4(s0,4;s1,4)"), 8, 999, 0, 999, 0, 40);
        Due.dueLight("11 nothing is lost by eight", Probe.bench(1000, -1000, 0, 0, "4(2(p2))"), 8, 1000, -1000, 0, 0, 0);
        // Along 3, across 2: I and Q as one are 9 times, I less Q 4 times more by each, over 16.
        long along = 1998L * 43046721;
        long across = 0;
        Due.dueLight("11 great numbers", Probe.bench(999, 999, 0, 0, "4(2(s0,14))"), 8, (along + across) / 2,
            (along - across) / 2, 0, 0, 32);
    }

    private static void lightRefused() {
        for (int k : NOT_BEHIND_SEVEN) {
            Probe.refused("11 VOID: k " + k, x -> x.light(k, 0), VOID);
        }
        for (int what : new int[] {-1, 5, LEAST, MOST}) {
            Probe.refused("11 VOID: what " + what, x -> x.light(0, what), VOID);
        }
        Probe.refusedByNew("11 VOID: k 1 without FILTERS", x -> x.light(1, 0), VOID);
        Probe.refusedByFull("11 VOID: k 9 of eight", x -> x.light(9, 0), VOID);
    }

    // ---- promise 12

    private static void leftRefused() {
        for (int k : NOT_BEHIND_SEVEN) {
            Probe.refused("12 VOID: k " + k, x -> x.left(k, 0), VOID);
        }
        for (int part : NO_PART) {
            Probe.refused("12 VOID: part " + part, x -> x.left(0, part), VOID);
        }
        for (int k = 0; k <= 7; k++) {
            int behind = k;
            Probe.changesNothing("12 VOID: LAMP's I is 0, above", Probe::dark, x -> x.left(behind, 0), VOID);
            Probe.changesNothing("12 VOID: LAMP's I is 0, below", Probe::dark, x -> x.left(behind, 1), VOID);
        }
    }

    private static void dueFraction(String words, long above, long below, long wantAbove, long wantBelow) {
        Due.due(words + ", above", above, wantAbove);
        Due.due(words + ", below", below, wantBelow);
    }

    private static void dueLeft(String words, FilterPile x, int k, long above, long below) {
        dueFraction("12 LEFT " + words, x.left(k, 0), x.left(k, 1), above, below);
    }

    private static void leftAtTheEnds() {
        dueLeft("behind none is 1 by 1", new FilterPile(), 0, 1, 1);
        dueLeft("of the least LAMP that is not dark", Probe.bench(1, 0, 0, 0, "y3"), 1, 3, 16);
        dueLeft("of all is 1 by 1", Probe.bench(7, 7, 0, 0, "p0;w1,2;r1"), 3, 1, 1);
        dueLeft("of the dark is 0 by 1", Probe.bench(7, 0, 0, 0, "p0;y3;p2"), 3, 0, 1);
        dueLeft("in lowest terms", Probe.bench(12, 0, 0, 0, "y6"), 1, 3, 8);
        dueLeft("the least", Probe.bench(999, 0, 0, 0, "4(s0,4;s1,4)"), 8, 1, 1L << 40);
        dueLeft("with the greatest number below", Probe.bench(997, 2, 0, 0, "4(s0,4;s1,4)"), 8, 999, 997L << 40);
    }

    // ---- promise 13

    private static void dueDegree(String words, FilterPile x, int k, long above, long below) {
        dueFraction("13 DEGREE " + words, x.degree(k, 0), x.degree(k, 1), above, below);
    }

    private static void degreeRefused() {
        for (int k : NOT_BEHIND_SEVEN) {
            Probe.refused("13 VOID: k " + k, x -> x.degree(k, 0), VOID);
        }
        for (int part : NO_PART) {
            Probe.refused("13 VOID: part " + part, x -> x.degree(0, part), VOID);
        }
    }

    private static void degreeAtTheEnds() {
        dueDegree("of NATURAL light is 0 by 1", Probe.bench(1000, 0, 0, 0, ""), 0, 0, 1);
        dueDegree("of LINEAR light is 1 by 1", Probe.bench(1000, 600, -800, 0, ""), 0, 1, 1);
        dueDegree("just below 1", Probe.bench(1000, 0, 0, 999, ""), 0, 998001, 1000000);
        dueDegree("just above 0", Probe.bench(1000, 0, -1, 0, ""), 0, 1, 1000000);
        dueDegree("in lowest terms", Probe.bench(6, 2, 2, 2, ""), 0, 1, 3);
    }

    private static void degreeOfTheDark() {
        for (int part = 0; part < 2; part++) {
            int asked = part;
            Probe.changesNothing("13 VOID: I is 0 there", Probe::dark, x -> x.degree(0, asked), VOID);
            Due.due("13 VOID: I is 0 there, behind a black one", Probe.bench(9, 1, 2, 3, "y0;y3").degree(2, asked), VOID);
            Due.due("13 I is not 0 ahead of it", Probe.bench(9, 9, 0, 0, "y0").degree(0, asked), 1);
        }
    }

    /** OVER behind all eight, and WHY tells of something else. */
    private static FilterPile over() {
        FilterPile x = Probe.bench(997, 1, 0, 0, "4(2(f1))");
        Due.read(x, "2(x");
        return x;
    }

    /** The words name k and part ahead of OVER: then WHY is not told of it. */
    private static void degreeRefusedAheadOfOver() {
        for (int part : NO_PART) {
            Probe.changesNothing("13 VOID: part ahead of OVER " + part, EdgesLightTest::over, x -> x.degree(8, part), VOID);
        }
        Probe.changesNothing("13 VOID: k ahead of OVER", EdgesLightTest::over, x -> x.degree(9, 0), VOID);
        Probe.changesNothing("14 NONE: k ahead of OVER", EdgesLightTest::over, x -> x.sort(9), NONE);
        Probe.changesNothing("13 no OVER behind none", EdgesLightTest::over, x -> x.degree(0, 0), 1);
    }

    // ---- promise 14

    private static void sortRefused() {
        for (int k : NOT_BEHIND_SEVEN) {
            Probe.refused("14 NONE: " + k, x -> x.sort(k), NONE);
        }
        Probe.refusedByNew("14 NONE: k 1 without FILTERS", x -> x.sort(1), NONE);
    }

    private static void dueSort(int i, int q, int u, int v, int want) {
        Due.due("14 SORT of " + i + " " + q + " " + u + " " + v, Probe.bench(i, q, u, v, "").sort(0), want);
    }

    private static void sortsSideBySide() {
        dueSort(0, 0, 0, 0, 0);
        dueSort(1, 0, 0, 0, 1);
        dueSort(1, 1, 0, 0, 2);
        dueSort(1, 0, -1, 0, 2);
        dueSort(5, -3, 4, 0, 2);
        dueSort(1, 0, 0, 1, 3);
        dueSort(1, 0, 0, -1, 3);
        dueSort(5, 3, 0, -4, 4);
        dueSort(5, 0, -3, 4, 4);
        dueSort(9, 4, 4, 7, 4);
        dueSort(1000, 999, 0, 0, 5);
        dueSort(1000, 0, 0, 999, 5);
        dueSort(1000, 0, 1, 0, 5);
        dueSort(9, 4, 4, 6, 5);
    }

    private static void sortOfGreatNumbers() {
        FilterPile x = Probe.bench(1000, 0, 0, 0, "4(2(f15))");
        Due.due("14 NATURAL is not OVER", x.sort(8), 1);
        x = Probe.bench(997, 997, 0, 0, "4(2(y13))");
        Due.due("14 LINEAR is not OVER when its four are divided", x.sort(8), 2);
        x = Probe.bench(997, 0, 0, -997, "4(2(y13))");
        Due.due("14 ROUND is not OVER when its four are divided", x.sort(8), 3);
        x = Probe.bench(997, 1, 0, 0, "4(f1);3(f1);y0");
        Due.due("14 OVER ahead of a black one", x.sort(7), OVER);
        Due.due("14 DARK is not OVER behind it", x.sort(8), 0);
        // Whole light stays whole behind SHEETS, but its four share less and less.
        x = Probe.bench(3, 1, 2, 2, "4(s0,14;s1,14)");
        Due.due("14 OVAL, not yet OVER", x.sort(8), 4);
        x = Probe.bench(5, -3, 4, 0, "4(s0,14;s1,14)");
        Due.due("14 LINEAR, but OVER", x.sort(8), OVER);
    }

    // ---- OVER

    private static void dueOver(String words, FilterPile x, int part) {
        int k = x.count(0);
        Due.read(x, "x");
        Due.due("14 OVER: " + words, x.sort(k), OVER);
        Due.dueWhy("46 OVER: " + words, x, 4, part);
        for (int n = 0; n < 2; n++) {
            Due.read(x, "2(x");
            Due.due("13 OVER: " + words, x.degree(k, n), VOID);
            Due.dueWhy("46 OVER: " + words, x, 4, part);
        }
    }

    private static FilterPile bright(String words, String text, int[] lamp, long... want) {
        FilterPile x = Probe.bench(lamp[0], lamp[1], lamp[2], lamp[3], text);
        Due.dueLight("11 " + words, x, x.count(0), want);
        return x;
    }

    private static int[] lamp(int i, int q, int u, int v) {
        return new int[] {i, q, u, v};
    }

    private static void overOfII() {
        FilterPile x = bright("I is the root", "s1,7;f9;s1,9;f5;s1,9;s0,6;f1;s1,6", lamp(892, 203, -669, 0),
            ROOT, -91437495, -1760667285, 0, 34);
        dueDegree("II is a long just so", x, 8, 91437495L * 91437495L + 1760667285L * 1760667285L, SQUARE);
        Due.due("14 II is a long just so", x.sort(8), 5);
        Due.due("46 no TROUBLE when II is a long just so", x.count(2), 0);
        x = bright("I is more than the root", "f1;s0,10;f11;s0,6;f1;f10;f7;s3,6", lamp(918, -343, -68, 0),
            ROOT + 1, -25336115, 1822116524, 0, 29);
        dueOver("II is no long just so", x, 5);
    }

    private static void overOfQQ() {
        FilterPile x = bright("Q is the root", "s0,11;f3;f7;s3,9;f3;s0,14;s2,11", lamp(754, 163, -286, 0),
            4540434643L, ROOT, -392168304, 0, 29);
        dueOver("QQ is a long just so, with UU it is none", x, 3);
        x = bright("Q is the root below 0", "f7;s2,6;f9;s3,7;s3,7;f1;s2,14", lamp(979, -469, -650, 0),
            7967531323L, -ROOT, 445267680, 0, 30);
        dueOver("QQ of Q below 0 is a long just so", x, 3);
        x = bright("Q is more than the root", "s1,14;f7;f13;f1;f3;s2,6;f9", lamp(435, 364, 236, 0),
            8973080768L, ROOT + 1, 12882051, 0, 28);
        dueOver("QQ is no long just so", x, 0);
        x = bright("Q is more than the root below 0", "f7;f14;s1,11;f1;f7;f1;s2,9", lamp(575, 172, -131, 0),
            5062611436L, -ROOT - 1, -3160129, 0, 27);
        dueOver("QQ of Q below 0 is no long just so", x, 0);
    }

    private static void overOfUU() {
        FilterPile x = bright("U is the root", "s0,11;s2,13;f3;f1;s1,9;s0,14;s1,14", lamp(943, 259, -573, 0),
            3927555883L, 1129606692, ROOT, 0, 30);
        dueOver("UU is a long just so, with QQ it is none", x, 3);
        x = bright("U is the root below 0", "f9;f5;s0,10;s0,11;s1,11;s3,13;f13", lamp(808, -627, -342, 0),
            4076460400L, -655684380, -ROOT, 0, 28);
        dueOver("UU of U below 0 is a long just so", x, 3);
        x = bright("U is more than the root", "f11;s2,14;f7;f7;f13;f4;s3,6", lamp(995, -653, 500, 0),
            5005611500L, -110187623, ROOT + 1, 0, 26);
        dueOver("UU is no long just so", x, 1);
        x = bright("U is more than the root below 0", "f7;f14;s2,14;f11;f11;f11;s1,6", lamp(575, -291, 124, 0),
            5191061996L, -736531477, -ROOT - 1, 0, 27);
        dueOver("UU of U below 0 is no long just so", x, 1);
    }

    /** As those of UU, with a PLATE behind that turns U to V. */
    private static void overOfVV() {
        FilterPile x = bright("V is the root", "s0,11;s2,13;f3;f1;s1,9;s0,14;s1,14;w2,1", lamp(943, 259, -573, 0),
            3927555883L, 1129606692, 0, ROOT, 30);
        dueOver("VV is a long just so, with QQ it is none", x, 4);
        x = bright("V is the root below 0", "f9;f5;s0,10;s0,11;s1,11;s3,13;f13;w2,1", lamp(808, -627, -342, 0),
            4076460400L, -655684380, 0, -ROOT, 28);
        dueOver("VV of V below 0 is a long just so", x, 4);
        x = bright("V is more than the root", "f11;s2,14;f7;f7;f13;f4;s3,6;w2,1", lamp(995, -653, 500, 0),
            5005611500L, -110187623, 0, ROOT + 1, 26);
        dueOver("VV is no long just so", x, 2);
        x = bright("V is more than the root below 0", "f7;f14;s2,14;f11;f11;f11;s1,6;w2,1", lamp(575, -291, 124, 0),
            5191061996L, -736531477, 0, -ROOT - 1, 27);
        dueOver("VV of V below 0 is no long just so", x, 2);
    }

    /** The greatest long is no sum of two squares nor of three: these come as near as the search for them came. */
    private static void overOfTwo() {
        FilterPile x = bright("QQ and UU", "f13;f2;f13;f4;f13;s2,11;s1,14", lamp(264, -125, 40, -226),
            5835330527L, 2033338980, 2256039175L, -71499168, 27);
        dueOver("QQ and UU are no long by a 10000th", x, 3);
        x = bright("QQ and UU", "f5;s2,11;f9;f13;f5;s3,10;w0,12;s3,7", lamp(886, 307, -640, 64),
            3841546240L, 159415425, 3032801792L, 6739200, 27);
        dueOver("QQ and UU, and VV with them, are a long by a 100000th; II is none", x, 5);
    }

    private static void overOfThree() {
        FilterPile x = bright("QQ, UU and VV", "f7;f12;f11;f10;s1,14;s0,10;s2,11;s1,13", lamp(736, 193, -2, 311),
            3303242915L, 639933405, 2967852856L, 77588280, 28);
        dueOver("QQ and UU are a long by a 1000th, with VV they are none", x, 4);
    }

    /** A GREY behind makes all four three times what they were, which is divided out again. */
    private static void overOfWhatIsDivided() {
        FilterPile x = bright("I is thrice the root", "f9;f3;s1,7;f9;w2,3;f13;s2,11;y3", lamp(682, 43, -361, 0),
            3 * ROOT, 3L * 1172591083, 0, 3L * 1048932612, 29);
        dueDegree("II is a long just so, divided", x, 8, 1172591083L * 1172591083L + 1048932612L * 1048932612L, SQUARE);
        x = bright("Q is thrice the root", "s0,11;f3;f7;s3,9;f3;s0,14;s2,11;y3", lamp(754, 163, -286, 0),
            3 * 4540434643L, 3 * ROOT, -3L * 392168304, 0, 33);
        dueOver("QQ is a long just so, divided", x, 3);
        x = bright("Q is more than thrice the root", "s1,14;f7;f13;f1;f3;s2,6;f9;y3", lamp(435, 364, 236, 0),
            3 * 8973080768L, 3 * (ROOT + 1), 3L * 12882051, 0, 32);
        dueOver("QQ is no long just so, divided", x, 0);
        x = bright("U is thrice the root", "s0,11;s2,13;f3;f1;s1,9;s0,14;s1,14;y3", lamp(943, 259, -573, 0),
            3 * 3927555883L, 3L * 1129606692, 3 * ROOT, 0, 34);
        dueOver("UU is a long just so, divided", x, 3);
        x = bright("U is more than thrice the root", "f11;s2,14;f7;f7;f13;f4;s3,6;y3", lamp(995, -653, 500, 0),
            3 * 5005611500L, -3L * 110187623, 3 * (ROOT + 1), 0, 30);
        dueOver("UU is no long just so, divided", x, 1);
    }

    private static void overChangesWhyAlone() {
        FilterPile x = over();
        String before = Probe.state(x);
        x.sort(8);
        String behind = Probe.state(x);
        Due.dueText("14 OVER changes WHY alone", behind, before.replace("counts 8 0 2", "counts 8 0 1")
            .replace("why 2 1 1 2 -5 -5", "why 4 5 -5 -5 -5 -5"));
        x = over();
        x.degree(8, 1);
        Due.dueText("13 OVER changes WHY alone", Probe.state(x), behind);
    }

    // ---- promise 17

    private static void matrixRefused() {
        for (int n : new int[] {-1, 4, LEAST, MOST}) {
            Probe.refused("17 VOID: row " + n, x -> x.matrix(n, 0, 0), VOID);
            Probe.refused("17 VOID: column " + n, x -> x.matrix(0, n, 0), VOID);
        }
        for (int what : NO_PART) {
            Probe.refused("17 VOID: what " + what, x -> x.matrix(0, 0, what), VOID);
        }
    }

    private static void dueMatrix(String text, int r, int c, long number, long e) {
        FilterPile x = Probe.bench(0, 0, 0, 0, text);
        dueFraction("17 MATRIX of " + text + ", " + r + " " + c, x.matrix(r, c, 0), x.matrix(r, c, 1), number, e);
    }

    private static void matrixNumbersByThemselves() {
        for (int r = 0; r < 4; r++) {
            for (int c = 0; c < 4; c++) {
                dueMatrix("", r, c, r == c ? 1 : 0, 0);
                dueMatrix("y0", r, c, 0, 0);
            }
        }
        // Beside a number over 32 in its column a 0 has E 0 all the same, and 12 is 3 over 8.
        dueMatrix("s0,14", 0, 0, 13, 5);
        dueMatrix("s0,14", 1, 0, 5, 5);
        dueMatrix("s0,14", 2, 0, 0, 0);
        dueMatrix("s0,14", 2, 2, 3, 3);
        dueMatrix("s0,3", 0, 1, -9, 5);
        dueMatrix("y8", 3, 3, 1, 1);
        // Q, U or V alone is no LIGHT that MAY be, and goes through all the same.
        dueMatrix("r1", 1, 2, -1, 0);
        dueMatrix("r1", 2, 1, 1, 0);
        dueMatrix("p2", 0, 1, -1, 1);
        dueMatrix("p3", 0, 2, -1, 1);
        dueMatrix("4(s0,4;s1,4)", 0, 0, 1, 40);
        dueMatrix("4(s0,4;s1,4)", 0, 1, 1, 40);
        dueMatrix("4(s0,4;s1,4)", 0, 2, 0, 0);
    }
}
