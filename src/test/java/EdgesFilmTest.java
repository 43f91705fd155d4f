/** Promises 33 to 37, each sentence that names an edge or a refusal: floats. */
public final class EdgesFilmTest {
    private static final long VOID = FilterPile.VOID;
    private static final int NONE = FilterPile.NONE, BAD = FilterPile.BAD;
    private static final int MOST = Probe.MOST, LEAST = Probe.LEAST;
    private static final int[] NO_CELL = {-1, 8, LEAST, MOST};
    /** 999 behind eight GREYS of 15: a double has all its digits, a float has not. */
    private static final String FINE = "4(2(y15))";
    private static final double FINE_LIGHT = 2560327734375d / 4294967296d;

    public static void main(String[] args) {
        meterRefused();
        meterAtTheEnds();
        meterLosesNoDigit();
        exposeRefused();
        exposeEachCell();
        exposeInTheDark();
        exposeRounds();
        dimRefused();
        dimBy0And16();
        dimRoundsTwice();
        dimToTheLeastFloat();
        filmRefused();
        filmThousandsAreCut();
        filmAboveMeter();
        sumFilmRefused();
        sumFilmOfNothing();
        sumFilmOneByOne();
        Due.end();
    }

    private static int bits(float value) {
        return Float.floatToRawIntBits(value);
    }

    private static long bits(double value) {
        return Double.doubleToRawLongBits(value);
    }

    private static FilterPile bench(int i, String text) {
        return Probe.bench(i, 0, 0, 0, text);
    }

    // ---- promise 33

    private static void meterRefused() {
        for (int k : new int[] {-1, 8, 9, LEAST, MOST}) {
            Probe.refused("33 VOID: k " + k, x -> x.meter(k, 0), VOID);
        }
        for (int what : new int[] {-1, 2, LEAST, MOST}) {
            Probe.refused("33 VOID: what " + what, x -> x.meter(0, what), VOID);
        }
        Probe.refusedByNew("33 VOID: k 1 without FILTERS", x -> x.meter(1, 0), VOID);
    }

    private static void dueMeter(String words, FilterPile x, int k, double want) {
        Due.due("33 " + words + ", float", x.meter(k, 0), bits((float) want));
        Due.due("33 " + words + ", double", x.meter(k, 1), bits(want));
    }

    private static void meterAtTheEnds() {
        dueMeter("0", bench(0, "y3"), 0, 0);
        dueMeter("0 behind all", bench(0, "y3"), 1, 0);
        dueMeter("0 behind a black one", bench(9, "y0"), 1, 0);
        dueMeter("1", bench(1, ""), 0, 1);
        dueMeter("1000", bench(1000, ""), 0, 1000);
        dueMeter("a half", bench(1, "y8"), 1, 0.5);
        dueMeter("just below 1", bench(1, "y15"), 1, 0.9375);
        dueMeter("just below 2", bench(2, "y15"), 1, 1.875);
        dueMeter("the least", bench(1, "4(s0,4;s1,4)"), 8, 1d / (1L << 40));
        Due.due("33 an int as a long", bench(1000, "").meter(0, 0) >>> 32, 0);
    }

    private static void meterLosesNoDigit() {
        FilterPile x = bench(999, FINE);
        dueMeter("no digit is lost", x, 8, FINE_LIGHT);
        Due.due("33 a float loses some", (double) (float) FINE_LIGHT != FINE_LIGHT ? 1 : 0, 1);
        // Numbers of some 45 digits, as 9 to the 8 times 1997 and 4 to the 8.
        dueMeter("many digits", Probe.bench(999, 998, 0, 0, "4(2(s0,14))"), 8,
            (43046721L * 1997 + 65536L) / (double) (1L << 33));
    }

    // ---- promise 34

    private static void exposeRefused() {
        for (int cell : NO_CELL) {
            Probe.refused("34 NONE: " + cell, x -> x.expose(cell), NONE);
        }
    }

    private static void exposeEachCell() {
        FilterPile x = new FilterPile();
        for (int cell = 0; cell < 8; cell++) {
            x.lamp(cell + 1, 0, 0, 0);
            Due.due("34 CELL " + cell, x.expose(cell), bits((float) (cell + 1)));
            Due.due("34 CELLS that are not 0", x.count(4), cell + 1);
        }
        for (int cell = 0; cell < 8; cell++) {
            Due.due("34 each has its own", x.film(cell, 0), bits((float) (cell + 1)));
        }
    }

    private static void exposeInTheDark() {
        FilterPile x = bench(0, "");
        Due.due("34 0 and nothing", x.expose(0), 0);
        Due.due("34 0 is 0", x.count(4), 0);
        x.lamp(3, 0, 0, 0);
        x.expose(0);
        x.lamp(0, 0, 0, 0);
        Due.due("34 3 and nothing", x.expose(0), bits(3f));
    }

    /** Beside a thousand the least light is none, in floats. */
    private static void exposeRounds() {
        FilterPile x = bench(1000, "");
        x.expose(2);
        x.lamp(1, 0, 0, 0);
        Due.read(x, "4(2(y1))");
        Due.due("34 the sum a float", x.expose(2), bits(1000f));
        Due.due("34 METER behind all, not LAMP", x.expose(3), bits(1f / 65536f / 65536f));
        x = bench(999, FINE);
        float cell = 0;
        for (int n = 0; n < 400; n++) {
            cell = cell + (float) FINE_LIGHT;
            Due.due("34 both floats, the sum a float: " + n, x.expose(1), bits(cell));
        }
    }

    // ---- promise 35

    private static void dimRefused() {
        for (int cell : NO_CELL) {
            Probe.refused("35 NONE: cell " + cell, x -> x.dim(cell, 8), NONE);
            Probe.refused("35 NONE ahead of BAD: cell " + cell, x -> x.dim(cell, 17), NONE);
        }
        for (int n : new int[] {-1, 17, LEAST, MOST}) {
            Probe.refused("35 BAD: n " + n, x -> x.dim(0, n), BAD);
        }
    }

    private static void dimBy0And16() {
        FilterPile x = bench(999, FINE);
        x.expose(7);
        Due.due("35 by 16 it stays", x.dim(7, 16), bits((float) FINE_LIGHT));
        Due.due("35 by 0 it is 0", x.dim(7, 0), 0);
        Due.due("35 0 by 16", x.dim(7, 16), 0);
        Due.due("35 0 is 0", x.count(4), 0);
    }

    private static void dimRoundsTwice() {
        FilterPile x = bench(999, FINE);
        x.expose(4);
        float cell = (float) FINE_LIGHT;
        for (int n = 15; n > 0; n--) {
            float times = cell * (float) n;
            cell = times / 16f;
            Due.due("35 times n as a float, that over 16 as a float: " + n, x.dim(4, n), bits(cell));
        }
        Due.due("35 the others stay", x.count(4), 1);
    }

    private static void dimToTheLeastFloat() {
        for (int n : new int[] {1, 2, 5, 8, 9, 11, 15}) {
            FilterPile x = bench(999, FINE);
            x.expose(5);
            float cell = (float) FINE_LIGHT;
            for (int calls = 0; calls < 450; calls++) {
                float times = cell * (float) n;
                cell = times / 16f;
                Due.due("35 down to the least float by " + n + ", " + calls, x.dim(5, n), bits(cell));
            }
            Due.due("35 its bits", x.film(5, 0), bits(cell));
            Due.due("35 SUM of it as floats", x.sumFilm(0), bits(cell));
            Due.due("35 SUM of it as doubles", x.sumFilm(1), bits((double) cell));
            Due.due("35 not 0, or 0", x.count(4), cell != 0f ? 1 : 0);
        }
        // 4 bits less by each: 1, then down to 2 to the -148, then 0.
        FilterPile x = bench(1, "");
        x.expose(0);
        for (int n = 0; n < 37; n++) {
            x.dim(0, 1);
        }
        Due.due("35 2 to the -148", x.film(0, 0), 2);
        Due.due("35 2 to the -148 is not 0", x.count(4), 1);
        Due.due("35 the least float", x.dim(0, 8), 1);
        Due.due("35 half of the least float, to the even one", x.dim(0, 8), 0);
        Due.due("35 0 in the end", x.count(4), 0);
    }

    // ---- promise 36

    private static void filmRefused() {
        for (int cell : NO_CELL) {
            for (int what = 0; what < 3; what++) {
                int asked = what;
                Probe.refused("36 NONE: cell " + cell, x -> x.film(cell, asked), NONE);
            }
        }
        for (int what : new int[] {-1, 3, LEAST, MOST}) {
            Probe.refused("36 NONE: what " + what, x -> x.film(0, what), NONE);
        }
    }

    private static void filmThousandsAreCut() {
        FilterPile x = bench(1, "y15");
        Due.due("36 THOUSANDS of 0", x.film(0, 1), 0);
        x.expose(0);
        Due.due("36 THOUSANDS of 0.9375, cast to an int", x.film(0, 1), 937);
        Due.read(x, "4(2(y1))");
        x.expose(1);
        Due.due("36 THOUSANDS of what is less than a thousandth", x.film(1, 1), 0);
        x.lamp(1000, 0, 0, 0);
        x.clear();
        for (int n = 0; n < 450; n++) {
            x.expose(2);
        }
        Due.due("36 THOUSANDS of 450000", x.film(2, 1), 450000000);
        x = bench(999, FINE);
        x.expose(0);
        Due.due("36 it times 1000 as floats", x.film(0, 1), (int) ((float) FINE_LIGHT * 1000f));
    }

    private static void filmAboveMeter() {
        FilterPile x = bench(0, "");
        Due.due("36 0 is not above 0", x.film(0, 2), 0);
        x.lamp(3, 0, 0, 0);
        Due.due("36 0 is not above 3", x.film(0, 2), 0);
        x.expose(0);
        Due.due("36 as much is not above", x.film(0, 2), 0);
        Due.read(x, "y15");
        Due.due("36 METER behind all is less", x.film(0, 2), 1);
        x.lamp(4, 0, 0, 0);
        Due.due("36 METER behind all is more", x.film(0, 2), 0);
        x = bench(999, FINE);
        x.expose(0);
        Due.due("36 as floats as much, whatever as doubles", x.film(0, 2), 0);
        x = bench(997, FINE);
        x.expose(0);
        Due.due("36 as floats as much, whatever as doubles", x.film(0, 2), 0);
    }

    // ---- promise 37

    private static void sumFilmRefused() {
        for (int what : new int[] {-1, 2, LEAST, MOST}) {
            Probe.refused("37 VOID: " + what, x -> x.sumFilm(what), VOID);
        }
    }

    private static void sumFilmOfNothing() {
        Due.due("37 of all 0, in floats", new FilterPile().sumFilm(0), 0);
        Due.due("37 of all 0, in doubles", new FilterPile().sumFilm(1), 0);
    }

    /** A CELL that is 1000 over 2 to the 26: a quarter of the last digit that 937.5 has as a float. */
    private static void exposeLittle(FilterPile x, int cell) {
        x.expose(cell);
        for (int n = 0; n < 6; n++) {
            x.dim(cell, 1);
        }
        x.dim(cell, 8);
        x.dim(cell, 8);
    }

    private static void sumFilmOneByOne() {
        double all = 937.5 + 7 * 1000d / (1 << 26);
        FilterPile x = bench(1000, "");
        x.expose(0);
        x.dim(0, 15);
        for (int cell = 1; cell < 8; cell++) {
            exposeLittle(x, cell);
        }
        Due.due("37 in floats: seven times too little to count", x.sumFilm(0), bits(937.5f));
        Due.due("37 in doubles all counts", x.sumFilm(1), bits(all));
        x = bench(1000, "");
        x.expose(7);
        x.dim(7, 15);
        for (int cell = 0; cell < 7; cell++) {
            exposeLittle(x, cell);
        }
        Due.due("37 in floats, CELL 0 first: together they count", x.sumFilm(0), bits(937.5f) + 2);
        Due.due("37 in doubles, CELL 7 too", x.sumFilm(1), bits(all));
    }
}
