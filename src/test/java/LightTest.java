/** Promises 11 to 23: light behind filters, orders, the matrix and what a pile does. */
public final class LightTest {
    private static final long VOID = FilterPile.VOID;

    public static void main(String[] args) {
        lightByKinds();
        lightAsked();
        left();
        degree();
        sort();
        over();
        order();
        orderLight();
        matrix();
        trade();
        angle();
        without();
        darkens();
        crossed();
        tally();
        Due.end();
    }

    private static FilterPile bench(int i, int q, int u, int v, String text) {
        FilterPile x = new FilterPile();
        Due.due("lamp", x.lamp(i, q, u, v), 1);
        if (!text.isEmpty()) {
            Due.due("read " + text, Math.min(0, Due.read(x, text)), 0);
        }
        return x;
    }

    private static void behindOne(String text, long... want) {
        Due.dueLight("11 " + text, bench(29, 2, 3, 20, text), 1, want);
    }

    /** Out of 29, 2, 3, 20. */
    private static void lightByKinds() {
        behindOne("g", 29, 2, 3, 20, 0);
        behindOne("y0", 0, 0, 0, 0, 0);
        behindOne("y1", 29, 2, 3, 20, 4);
        behindOne("y8", 29, 2, 3, 20, 1);
        behindOne("y16", 29, 2, 3, 20, 0);
        behindOne("f0", 29, 0, 0, 0, 0);
        behindOne("f3", 464, 6, 9, 60, 4);
        behindOne("f4", 116, 2, 3, 20, 2);
        behindOne("f16", 29, 2, 3, 20, 0);
        // ALONG 2, ACROSS 1: 5 and 3, 4.
        behindOne("s0,9", 5 * 29 + 3 * 2, 3 * 29 + 5 * 2, 4 * 3, 4 * 20, 5);
        behindOne("s1,9", (5 * 29 + 3 * 3) / 2, 4 * 2 / 2, (3 * 29 + 5 * 3) / 2, 4 * 20 / 2, 4);
        behindOne("s2,9", 5 * 29 - 3 * 2, -(3 * 29 - 5 * 2), 4 * 3, 4 * 20, 5);
        behindOne("s3,9", (5 * 29 - 3 * 3) / 8, 1, -(3 * 29 - 5 * 3) / 8, 10, 2);
        // ALONG 0, ACROSS 3: more across than along.
        behindOne("s0,3", 9 * 29 - 9 * 2, -9 * 29 + 9 * 2, 0, 0, 5);
        behindOne("s0,0", 0, 0, 0, 0, 0);
        behindOne("s0,16", 31, 31, 0, 0, 1);
        behindOne("p0", 31, 31, 0, 0, 1);
        behindOne("p1", 16, 0, 16, 0, 0);
        behindOne("p2", 27, -27, 0, 0, 1);
        behindOne("p3", 13, 0, -13, 0, 0);
        behindOne("w0,1", 29, 2, 20, -3, 0);
        behindOne("w0,2", 29, 2, -3, -20, 0);
        behindOne("w0,3", 29, 2, -20, 3, 0);
        behindOne("w0,4", 29, 2, 3, 20, 0);
        behindOne("w1,1", 29, -20, 3, 2, 0);
        behindOne("w1,14", 29, -2, 3, -20, 0);
        behindOne("w2,1", 29, 2, -20, 3, 0);
        behindOne("w3,1", 29, 20, 3, -2, 0);
        behindOne("w3,15", 29, -20, 3, 2, 0);
        behindOne("r1", 29, -3, 2, 20, 0);
        behindOne("r2", 29, -2, -3, 20, 0);
        behindOne("r3", 29, 3, -2, 20, 0);
        behindOne("r16", 29, 2, 3, 20, 0);
        FilterPile x = bench(29, 2, 3, 20, "");
        x.add(3, 0, 7);
        x.add(5, 2, 5);
        Due.dueLight("11 a POLAR's FIGURE is aside", x, 1, 31, 31, 0, 0, 1);
        Due.dueLight("11 a ROTATOR's ANGLE is aside", x, 2, 31, 0, 31, 0, 1);
    }

    private static void lightAsked() {
        FilterPile x = bench(29, 2, 3, 20, "y1;y1;g");
        Due.dueLight("11 E grows", x, 3, 29, 2, 3, 20, 8);
        Due.dueLight("11 behind none", x, 0, 29, 2, 3, 20, 0);
        Due.due("11 light", x.light(-1, 0), VOID);
        Due.due("11 light", x.light(4, 0), VOID);
        Due.due("11 light", x.light(0, 5), VOID);
        Due.due("11 light", x.light(0, -1), VOID);
        FilterPile y = bench(999, 0, 0, -999, "4(2(y15))");
        Due.dueLight("11 many digits", y, 8, 2560327734375L, 0, 0, -2560327734375L, 32);
        y = bench(1000, 1000, 0, 0, "4(2(s0,16))");
        Due.dueLight("11 nothing lost", y, 8, 1000, 1000, 0, 0, 0);
    }

    private static void left() {
        FilterPile x = bench(12, 0, 0, 0, "y3;p0;y0");
        Due.due("12 left", x.left(0, 0), 1);
        Due.due("12 left", x.left(0, 1), 1);
        Due.due("12 left", x.left(1, 0), 3);
        Due.due("12 left", x.left(1, 1), 16);
        Due.due("12 left", x.left(2, 0), 3);
        Due.due("12 left", x.left(2, 1), 32);
        Due.due("12 left", x.left(3, 0), 0);
        Due.due("12 left", x.left(3, 1), 1);
        Due.due("12 left", x.left(4, 0), VOID);
        Due.due("12 left", x.left(-1, 0), VOID);
        Due.due("12 left", x.left(0, 2), VOID);
        Due.due("12 left", x.left(0, -1), VOID);
        x.lamp(1, 0, 0, 0);
        Due.due("12 left", x.left(1, 0), 3);
        Due.due("12 left", x.left(1, 1), 16);
        x.lamp(0, 0, 0, 0);
        Due.due("12 left", x.left(0, 0), VOID);
        Due.due("12 left", x.left(0, 1), VOID);
    }

    private static void degree() {
        FilterPile x = bench(6, 2, 2, 0, "f8;p3;y0");
        Due.due("13 degree", x.degree(0, 0), 2);
        Due.due("13 degree", x.degree(0, 1), 9);
        Due.due("13 degree", x.degree(1, 0), 1);
        Due.due("13 degree", x.degree(1, 1), 18);
        Due.due("13 degree", x.degree(2, 0), 1);
        Due.due("13 degree", x.degree(2, 1), 1);
        Due.due("13 degree", x.degree(3, 0), VOID);
        Due.due("13 degree", x.degree(3, 1), VOID);
        Due.due("13 degree", x.degree(4, 0), VOID);
        Due.due("13 degree", x.degree(-1, 0), VOID);
        Due.due("13 degree", x.degree(0, 2), VOID);
        Due.due("13 degree", x.degree(0, -1), VOID);
        x.lamp(5, 0, 0, 0);
        Due.due("13 degree", x.degree(0, 0), 0);
        Due.due("13 degree", x.degree(0, 1), 1);
        Due.due("13 no OVER", x.count(2), 0);
    }

    private static void dueSort(int i, int q, int u, int v, int want) {
        Due.due("14 sort of " + i + " " + q + " " + u + " " + v, bench(i, q, u, v, "").sort(0), want);
    }

    private static void sort() {
        dueSort(0, 0, 0, 0, 0);
        dueSort(5, 0, 0, 0, 1);
        dueSort(5, 3, 4, 0, 2);
        dueSort(5, -5, 0, 0, 2);
        dueSort(5, 0, 5, 0, 2);
        dueSort(5, 0, 0, -5, 3);
        dueSort(5, 3, 0, 4, 4);
        dueSort(5, 0, 3, 4, 4);
        dueSort(7, 2, 3, 6, 4);
        dueSort(5, 3, 3, 0, 5);
        dueSort(5, 0, 0, 1, 5);
        FilterPile x = new FilterPile();
        Due.due("14 sort", x.sort(1), FilterPile.NONE);
        Due.due("14 sort", x.sort(-1), FilterPile.NONE);
    }

    private static void dueOver(String call, FilterPile x, int k, int part) {
        x.wipe();
        Due.due(call, Due.read(x, "x"), -100);
        Due.due(call + " sort", x.sort(k), FilterPile.OVER);
        Due.dueWhy(call + " sort", x, 4, part);
        Due.due(call, Due.read(x, "gg"), -101);
        Due.due(call + " degree", x.degree(k, 0), VOID);
        Due.dueWhy(call + " degree", x, 4, part);
        Due.due(call + " degree", x.degree(k, 2), VOID);
        Due.due(call + " degree", x.degree(k, 1), VOID);
        Due.dueWhy(call + " degree", x, 4, part);
    }

    /** Promises 13, 14, 46: squares that are no longs. */
    private static void over() {
        FilterPile x = bench(999, 1, 0, 0, "4(s0,14;s0,14)");
        dueOver("13 QQ", x, 8, 0);
        x = bench(999, 0, 1, 0, "4(s1,14;s1,14)");
        dueOver("13 UU", x, 8, 1);
        x = bench(999, 0, 2, 0, "4(s1,14);3(s1,14);w0,3");
        dueOver("13 VV", x, 8, 2);
        x = bench(451, 323, 99, -51, "f6;f2;s2,6;f9;f3;f7;s3,14;s0,6");
        Due.dueLight("13 QQ and UU", x, 8, 4821245729L, -2809795791L, -1506145022, -694008, 30);
        dueOver("13 QQ and UU", x, 8, 3);
        x = bench(517, -219, -47, -446, "s1,6;s2,13;f15;s1,14;f15;s3,11;w2,13;s1,11");
        Due.dueLight("13 all three", x, 8, 4000422869L, -2971209600L, -578228365, 1899085260, 31);
        dueOver("13 all three", x, 8, 4);
        x = bench(867, -213, 35, -819, "s3,13;f11;s3,6;s2,14;s0,11;f11;f15;r9");
        Due.dueLight("13 all three, but no two with Q", x, 8, 6103000832L, -240510600, -2883831555L, -1284323040, 30);
        dueOver("13 all three, but no two with Q", x, 8, 4);
        x = bench(999, 0, 0, 0, "4(2(s0,14))");
        Due.due("13 divided by 999 and more", x.sort(8), 5);
        Due.due("13 divided", x.count(2), 0);
        x = bench(997, 0, 0, 0, "4(2(y13))");
        Due.due("14 NATURAL is never OVER", x.sort(8), 1);
        Due.due("13 NATURAL", x.degree(8, 0), 0);
        Due.due("13 NATURAL", x.degree(8, 1), 1);
        x = bench(997, 1, 0, 0, "4(2(f1))");
        dueOver("13 II", x, 8, 5);
        Due.due("13 behind 5", x.sort(5), 5);
        Due.due("13 behind 5", x.degree(5, 1), 997L * 997 << 40);
        x = bench(0, 0, 0, 0, "");
        Due.due("14 DARK is never OVER", x.sort(0), 0);
    }

    private static void order() {
        FilterPile x = new FilterPile();
        int[] none = {0, 0, 1, 1};
        for (int what = 0; what < 4; what++) {
            Due.due("15 order", x.order(what), none[what]);
        }
        Due.due("15 order", x.order(-1), FilterPile.NONE);
        Due.due("15 order", x.order(4), FilterPile.NONE);
        // What comes out is told by what the last one is: p0, or the way from p0 to r1.
        x = bench(16, 16, 0, 0, "r1;p0");
        Due.due("15 order", x.order(0), 12);
        Due.due("15 order", x.order(1), 21);
        Due.due("15 order", x.order(2), 2);
        Due.due("15 order", x.order(3), 1);
        x = bench(16, 0, 0, 0, "4(g);y4");
        Due.due("15 like ones", x.order(0), 12345);
        Due.due("15 like ones", x.order(1), 12345);
        Due.due("15 like ones", x.order(2), 1);
        Due.due("15 like ones", x.order(3), 120);
        x.add(0, 0, 0);
        Due.due("15 six", x.order(0), FilterPile.STATE);
        Due.due("15 six", x.order(4), FilterPile.NONE);
        x = bench(16, 0, 0, 0, "p0;p1;p2");
        // 1 2 3 and 3 2 1 leave 2, all others none.
        Due.due("15 three", x.order(0), 132);
        Due.due("15 three", x.order(1), 123);
        Due.due("15 three", x.order(2), 3);
        Due.due("15 three", x.order(3), 4);
        // 7 over 2 is less than 4, though 7 is more.
        x = bench(6, 2, -1, 0, "r1;p0");
        Due.due("15 by number", x.order(0), 12);
        Due.due("15 by number", x.order(1), 21);
    }

    private static void orderLight() {
        FilterPile x = bench(16, 15, 0, 0, "p0;w1,2");
        long[] least = {1, 1, 0, 0, 1};
        long[] most = {31, -31, 0, 0, 1};
        for (int what = 0; what < 5; what++) {
            Due.due("16 least", x.orderLight(0, what), least[what]);
            Due.due("16 most", x.orderLight(1, what), most[what]);
        }
        Due.due("16 orderLight", x.orderLight(2, 0), VOID);
        Due.due("16 orderLight", x.orderLight(-1, 0), VOID);
        Due.due("16 orderLight", x.orderLight(0, 5), VOID);
        Due.due("16 orderLight", x.orderLight(0, -1), VOID);
        x.clear();
        Due.due("16 none", x.orderLight(0, 0), 16);
        Due.due("16 none", x.orderLight(1, 1), 15);
        Due.read(x, "4(g);y8");
        Due.due("16 five", x.orderLight(0, 0), 16);
        Due.due("16 five", x.orderLight(1, 4), 1);
        Due.read(x, "3(g;g)");
        Due.due("16 six", x.orderLight(0, 0), VOID);
    }

    private static void matrix() {
        FilterPile x = new FilterPile();
        for (int r = 0; r < 4; r++) {
            for (int c = 0; c < 4; c++) {
                Due.due("17 none", x.matrix(r, c, 0), r == c ? 1 : 0);
                Due.due("17 none", x.matrix(r, c, 1), 0);
            }
        }
        Due.read(x, "s0,9;r1");
        long[][] numbers = {{5, 3, 0, 0}, {0, 0, -1, 0}, {3, 5, 0, 0}, {0, 0, 0, 1}};
        long[][] es = {{5, 5, 0, 0}, {0, 0, 3, 0}, {5, 5, 0, 0}, {0, 0, 0, 3}};
        for (int r = 0; r < 4; r++) {
            for (int c = 0; c < 4; c++) {
                Due.due("17 matrix " + r + " " + c, x.matrix(r, c, 0), numbers[r][c]);
                Due.due("17 matrix E " + r + " " + c, x.matrix(r, c, 1), es[r][c]);
            }
        }
        Due.due("17 matrix", x.matrix(-1, 0, 0), VOID);
        Due.due("17 matrix", x.matrix(4, 0, 0), VOID);
        Due.due("17 matrix", x.matrix(0, -1, 0), VOID);
        Due.due("17 matrix", x.matrix(0, 4, 0), VOID);
        Due.due("17 matrix", x.matrix(0, 0, -1), VOID);
        Due.due("17 matrix", x.matrix(0, 0, 2), VOID);
    }

    private static void trade() {
        FilterPile x = bench(16, 0, 0, 0, "y7;p0;p2;p1;w0,1;r2;f3;w1,1");
        for (int i = 0; i < 8; i++) {
            for (int j = 0; j < 8; j++) {
                Due.due("18 trade is the same both ways " + i + " " + j, x.trade(i, j), x.trade(j, i));
            }
            Due.due("18 trade with itself " + i, x.trade(i, i), 1);
            Due.due("18 a grey trades with all " + i, x.trade(0, i), 1);
        }
        Due.due("18 p0, p2", x.trade(1, 2), 1);
        Due.due("18 p0, p1", x.trade(1, 3), 0);
        Due.due("18 p0, w0", x.trade(1, 4), 1);
        Due.due("18 p1, w0", x.trade(3, 4), 0);
        Due.due("18 p1, w1", x.trade(3, 7), 1);
        Due.due("18 w0, w1", x.trade(4, 7), 0);
        Due.due("18 f3, p0", x.trade(6, 1), 0);
        Due.due("18 f3, w0", x.trade(6, 4), 1);
        Due.due("18 r2, p0", x.trade(5, 1), 0);
        Due.due("18 trade", x.trade(8, 0), FilterPile.NONE);
        Due.due("18 trade", x.trade(0, 8), FilterPile.NONE);
        Due.due("18 trade", x.trade(-1, 0), FilterPile.NONE);
        Due.due("18 trade", x.trade(0, -1), FilterPile.NONE);
    }

    private static void angle() {
        FilterPile x = bench(16, 0, 0, 0, "p0;p0");
        Due.due("19 best", x.angle(1, 0), 0);
        Due.due("19 worst", x.angle(1, 1), 2);
        Due.due("19 unlike", x.angle(1, 2), 4);
        x.turn(0, 3);
        Due.due("19 best", x.angle(1, 0), 3);
        Due.due("19 worst", x.angle(1, 1), 1);
        Due.due("19 own ANGLE is left as it is", x.of(1, 1), 0);
        x = bench(16, 0, 0, 0, "y3;r1");
        Due.due("19 like ones", x.angle(0, 0), 0);
        Due.due("19 like ones", x.angle(0, 1), 0);
        Due.due("19 like ones", x.angle(0, 2), 1);
        // 3, 5 over 2, 3, 7 over 2.
        x = bench(6, 0, -1, 0, "p0;g");
        Due.due("19 by number", x.angle(0, 0), 3);
        Due.due("19 by number", x.angle(0, 1), 1);
        Due.due("19 by number", x.angle(0, 2), 4);
        Due.due("19 angle", x.angle(2, 0), FilterPile.NONE);
        Due.due("19 angle", x.angle(-1, 0), FilterPile.NONE);
        Due.due("19 angle", x.angle(0, 3), FilterPile.NONE);
        Due.due("19 angle", x.angle(0, -1), FilterPile.NONE);
    }

    private static void without() {
        FilterPile x = bench(10, 0, 0, 0, "p0;y3;p2");
        Due.due("20 without", x.without(0, 0), 3);
        Due.due("20 without", x.without(0, 1), 32);
        Due.due("20 without", x.without(1, 0), 0);
        Due.due("20 without", x.without(1, 1), 1);
        Due.due("20 without", x.without(2, 1), 32);
        Due.due("20 without", x.without(3, 0), VOID);
        Due.due("20 without", x.without(-1, 0), VOID);
        Due.due("20 without", x.without(0, 2), VOID);
        Due.due("20 without", x.without(0, -1), VOID);
        Due.due("20 count", x.count(0), 3);
        x.lamp(0, 0, 0, 0);
        Due.due("20 without", x.without(0, 0), VOID);
    }

    private static void darkens() {
        Due.due("21 darkens", bench(0, 0, 0, 0, "").darkens(), 0);
        Due.due("21 darkens", bench(1, 0, 0, 0, "").darkens(), FilterPile.NOT);
        Due.due("21 darkens", bench(1, 0, 0, 0, "p0;g;p2;y0").darkens(), 3);
        Due.due("21 darkens", bench(1, 0, 0, 0, "4(2(y1))").darkens(), FilterPile.NOT);
        Due.due("21 darkens", bench(1, 0, 0, 0, "4(g);3(g);y0").darkens(), 8);
        Due.due("21 darkens", bench(1, -1, 0, 0, "p0").darkens(), 1);
    }

    private static void crossed() {
        FilterPile x = bench(0, 0, 0, 0, "");
        Due.due("22 crossed", x.crossed(0), 0);
        Due.due("22 crossed", x.crossed(1), FilterPile.NOT);
        Due.due("22 crossed", x.crossed(2), FilterPile.NONE);
        Due.due("22 crossed", x.crossed(-1), FilterPile.NONE);
        Due.read(x, "g;p0;p1;p2;p3;s0,3");
        Due.due("22 crossed", x.crossed(0), 3);
        Due.due("22 crossed", x.crossed(1), 13);
        Due.read(x, "g;y0;g");
        Due.due("22 crossed by a black one", x.crossed(0), 2);
        Due.due("22 crossed by a black one", x.crossed(1), 1);
        Due.read(x, "4(2(y0))");
        Due.due("22 crossed", x.crossed(0), 28);
    }

    private static void tally() {
        FilterPile x = new FilterPile();
        int[] none = {0, FilterPile.NOT, 0};
        for (int what = 0; what < 3; what++) {
            Due.due("23 tally", x.tally(what), none[what]);
        }
        Due.due("23 tally", x.tally(3), FilterPile.NONE);
        Due.due("23 tally", x.tally(-1), FilterPile.NONE);
        Due.read(x, "y1;y2;p0;y2;p0;y1;g");
        int[] tied = {4, 1001, 2};
        for (int what = 0; what < 3; what++) {
            Due.due("23 tied", x.tally(what), tied[what]);
        }
        x.add(3, 0, 0);
        Due.due("23 most", x.tally(1), 3000);
        Due.due("23 most", x.tally(2), 3);
        x.change(7, 2, 1);
        Due.due("23 by CODES", x.tally(0), 5);
        Due.due("23 by CODES", x.tally(1), 1001);
        x.change(6, 0, 0);
        x.clear();
        x.add(0, 0, 0);
        Due.due("23 CODE 0", x.tally(1), 0);
        Due.due("23 CODE 0", x.tally(2), 1);
    }
}
