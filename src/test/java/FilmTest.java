/** Promises 33 to 37: floats. */
public final class FilmTest {
    private static final long VOID = FilterPile.VOID;

    public static void main(String[] args) {
        meter();
        expose();
        dim();
        dimToNothing();
        film();
        sumFilm();
        Due.end();
    }

    private static int bits(float value) {
        return Float.floatToRawIntBits(value);
    }

    private static long bits(double value) {
        return Double.doubleToRawLongBits(value);
    }

    private static FilterPile bench(int i, String text) {
        FilterPile x = new FilterPile();
        x.lamp(i, 0, 0, 0);
        Due.due("read", Math.min(0, Due.read(x, text)), 0);
        return x;
    }

    private static void meter() {
        for (int i = 0; i <= 1000; i++) {
            FilterPile x = new FilterPile();
            x.lamp(i, 0, 0, 0);
            Due.due("33 float of " + i, x.meter(0, 0), bits((float) i));
            Due.due("33 double of " + i, x.meter(0, 1), bits((double) i));
        }
        FilterPile x = bench(999, "4(2(y15))");
        for (int k = 0; k <= 8; k++) {
            double due = 999;
            for (int n = 0; n < k; n++) {
                due = due * 15 / 16;
            }
            Due.due("33 rounded " + k, x.meter(k, 0), bits((float) due));
            Due.due("33 not rounded " + k, x.meter(k, 1), bits(due));
        }
        x = bench(1, "4(2(y1))");
        Due.due("33 least", x.meter(8, 0), bits(1f / 65536f / 65536f));
        Due.due("33 least", x.meter(8, 1), bits(1d / 65536d / 65536d));
        Due.due("33 meter", x.meter(9, 0), VOID);
        Due.due("33 meter", x.meter(-1, 0), VOID);
        Due.due("33 meter", x.meter(0, 2), VOID);
        Due.due("33 meter", x.meter(0, -1), VOID);
    }

    private static void expose() {
        FilterPile x = bench(999, "4(2(y15))");
        float light = (float) (2560327734375L / 4294967296d);
        float cell = 0;
        for (int n = 0; n < 100; n++) {
            cell = cell + light;
            Due.due("34 expose " + n, x.expose(7), bits(cell));
        }
        Due.due("34 others", x.film(6, 0), 0);
        Due.due("34 expose", x.expose(8), FilterPile.NONE);
        Due.due("34 expose", x.expose(-1), FilterPile.NONE);
        x.lamp(0, 0, 0, 0);
        Due.due("34 dark", x.expose(0), 0);
    }

    private static void dim() {
        FilterPile x = bench(999, "4(2(y15))");
        x.expose(0);
        float cell = (float) (2560327734375L / 4294967296d);
        for (int n = 16; n > 0; n--) {
            float times = cell * n;
            cell = times / 16;
            Due.due("35 dim " + n, x.dim(0, n), bits(cell));
        }
        Due.due("35 dim", x.dim(8, 99), FilterPile.NONE);
        Due.due("35 dim", x.dim(-1, 0), FilterPile.NONE);
        Due.due("35 dim", x.dim(0, 17), FilterPile.BAD);
        Due.due("35 dim", x.dim(0, -1), FilterPile.BAD);
        Due.due("35 as it was", x.film(0, 0), bits(cell));
        Due.due("35 dim", x.dim(0, 0), 0);
        Due.due("35 dim", x.count(4), 0);
    }

    /** Below the least power a float loses digits, one by one, until it is 0. */
    private static void dimToNothing() {
        for (int n : new int[] {1, 3, 7, 15}) {
            FilterPile x = bench(999, "4(2(y15))");
            x.expose(3);
            float cell = (float) (2560327734375L / 4294967296d);
            for (int calls = 0; calls < 400; calls++) {
                float times = cell * n;
                cell = times / 16;
                Due.due("35 dim by " + n + ", " + calls, x.dim(3, n), bits(cell));
            }
            Due.due("35 sum", x.sumFilm(0), bits(cell));
            Due.due("35 sum", x.sumFilm(1), bits((double) cell));
            Due.due("35 count", x.count(4), cell != 0 ? 1 : 0);
        }
    }

    private static void film() {
        FilterPile x = bench(7, "y3");
        x.expose(2);
        Due.due("36 bits", x.film(2, 0), bits(1.3125f));
        Due.due("36 thousands", x.film(2, 1), 1312);
        Due.due("36 as much is not above", x.film(2, 2), 0);
        x.dim(2, 15);
        Due.due("36 thousands", x.film(2, 1), 1230);
        Due.due("36 below", x.film(2, 2), 0);
        x.expose(2);
        Due.due("36 above", x.film(2, 2), 1);
        Due.due("36 of none", x.film(0, 1), 0);
        Due.due("36 film", x.film(8, 0), FilterPile.NONE);
        Due.due("36 film", x.film(-1, 0), FilterPile.NONE);
        Due.due("36 film", x.film(0, 3), FilterPile.NONE);
        Due.due("36 film", x.film(0, -1), FilterPile.NONE);
        x.lamp(1000, 0, 0, 0);
        x.clear();
        for (int n = 0; n < 300; n++) {
            x.expose(5);
        }
        Due.due("36 great", x.film(5, 1), 300000000);
        // Above only by a digit that a float has not: as floats they are as much.
        x = bench(999, "4(2(y15))");
        x.expose(0);
        Due.due("36 as floats", x.film(0, 2), 0);
    }

    private static void sumFilm() {
        FilterPile x = bench(1000, "g");
        Due.due("37 none", x.sumFilm(0), 0);
        Due.due("37 none", x.sumFilm(1), 0);
        float[] cells = new float[8];
        for (int cell = 0; cell < 8; cell++) {
            x.expose(cell);
            cells[cell] = 1000f;
            for (int n = 0; n < cell * 3; n++) {
                x.dim(cell, 7);
                cells[cell] = cells[cell] * 7f / 16f;
            }
        }
        float narrow = 0;
        double wide = 0;
        for (float cell : cells) {
            narrow += cell;
            wide += cell;
        }
        Due.due("37 floats", x.sumFilm(0), bits(narrow));
        Due.due("37 doubles", x.sumFilm(1), bits(wide));
        Due.due("37 unlike", wide != narrow ? 1 : 0, 1);
        Due.due("37 sum", x.sumFilm(2), VOID);
        Due.due("37 sum", x.sumFilm(-1), VOID);
    }
}
