import java.math.BigInteger;
import java.util.ArrayList;
import java.util.Arrays;
import java.util.HashMap;
import java.util.List;
import java.util.Map;

/**
 * The document told a second time, by other means than the class: filters are matrices of
 * big numbers over one power of 2, lights are columns, texts are read byte by byte with a
 * stack of what may come next. Slow, and for RandomTest alone.
 */
final class Model {
    private static final long VOID = Long.MIN_VALUE;
    private static final int NONE = -1, BAD = -2, STATE = -3, FULL = -4, NOT = -5, OVER = -9, MISSING = -11, PLACE = -13, BELOW = -14, KIND = -16;

    /** Numbers over 2 to the e, in rows of a matrix, or one column. */
    private record Grid(BigInteger[][] at, int e) {
        Grid times(Grid right) {
            int width = right.at[0].length;
            BigInteger[][] product = new BigInteger[4][width];
            for (int r = 0; r < 4; r++) {
                for (int c = 0; c < width; c++) {
                    product[r][c] = BigInteger.ZERO;
                    for (int n = 0; n < 4; n++) {
                        product[r][c] = product[r][c].add(at[r][n].multiply(right.at[n][c]));
                    }
                }
            }
            return new Grid(product, e + right.e);
        }

        /** The first column as I, Q, U, V, E in LOWEST form. */
        List<BigInteger> lowest() {
            int halvings = e;
            for (int r = 0; r < 4; r++) {
                if (at[r][0].signum() != 0) {
                    halvings = Math.min(halvings, at[r][0].getLowestSetBit());
                }
            }
            List<BigInteger> light = new ArrayList<>();
            for (int r = 0; r < 4; r++) {
                light.add(at[r][0].shiftRight(halvings));
            }
            light.add(BigInteger.valueOf(e - halvings));
            return light;
        }
    }

    private record Filter(int kind, int angle, int figure) {
        int code() {
            return kind * 1000 + angle * 100 + figure;
        }
    }

    private static final class State {
        Grid lamp = column(16, 0, 0, 0, 0);
        List<Filter> pile = new ArrayList<>();
        float[] cells = new float[8];
        Filter[][] racks = new Filter[3][4];
        int[] takes = {0, 1, 2};

        State copy() {
            State copy = new State();
            copy.lamp = lamp;
            copy.pile = new ArrayList<>(pile);
            copy.cells = cells.clone();
            for (int rack = 0; rack < 3; rack++) {
                copy.racks[rack] = racks[rack].clone();
            }
            copy.takes = takes.clone();
            return copy;
        }
    }

    private State s = new State();
    private State image;
    private final long[][] lists = new long[3][];
    private final StringBuilder tape = new StringBuilder();
    private List<int[]> troubles = new ArrayList<>();

    // ---- matrices

    private static Grid grid(int e, long... numbers) {
        BigInteger[][] at = new BigInteger[4][numbers.length / 4];
        for (int n = 0; n < numbers.length; n++) {
            at[n / (numbers.length / 4)][n % (numbers.length / 4)] = BigInteger.valueOf(numbers[n]);
        }
        return new Grid(at, e);
    }

    private static Grid column(long i, long q, long u, long v, int e) {
        return grid(e, i, q, u, v);
    }

    private static final Grid UNIT = grid(0, 1, 0, 0, 0, 0, 1, 0, 0, 0, 0, 1, 0, 0, 0, 0, 1);
    /** A quarter turn of Q toward U, as a ROTATOR makes it. */
    private static final Grid QUARTER = grid(0, 1, 0, 0, 0, 0, 0, -1, 0, 0, 1, 0, 0, 0, 0, 0, 1);

    private static Grid power(Grid base, int times) {
        Grid product = UNIT;
        for (int n = 0; n < times; n++) {
            product = base.times(product);
        }
        return product;
    }

    /** A filter at ANGLE a is the one at 0, between a turn back and a turn forth. */
    private static Grid turned(Grid atZero, int angle) {
        return power(QUARTER, angle).times(atZero).times(power(QUARTER, (4 - angle) % 4));
    }

    private static Grid matrixOf(Filter f) {
        int n = f.figure;
        switch (f.kind) {
            case 1:
                return grid(4, n, 0, 0, 0, 0, n, 0, 0, 0, 0, n, 0, 0, 0, 0, n);
            case 2:
            case 3:
                int a = f.kind == 3 ? 4 : n / 4;
                int b = f.kind == 3 ? 0 : n % 4;
                int plus = a * a + b * b;
                int less = a * a - b * b;
                int both = 2 * a * b;
                return turned(grid(5, plus, less, 0, 0, less, plus, 0, 0, 0, 0, both, 0, 0, 0, 0, both), f.angle);
            case 4:
                return turned(power(grid(0, 1, 0, 0, 0, 0, 1, 0, 0, 0, 0, 0, 1, 0, 0, -1, 0), n % 4), f.angle);
            case 5:
                return power(QUARTER, n % 4);
            case 6:
                return grid(4, 16, 0, 0, 0, 0, n, 0, 0, 0, 0, n, 0, 0, 0, 0, n);
            default:
                return UNIT;
        }
    }

    private static Grid matrixOf(List<Filter> filters) {
        Grid product = UNIT;
        for (Filter f : filters) {
            product = matrixOf(f).times(product);
        }
        return product;
    }

    private List<BigInteger> out(List<Filter> filters) {
        return matrixOf(filters).times(s.lamp).lowest();
    }

    private List<BigInteger> behind(int k) {
        return out(s.pile.subList(0, k));
    }

    // ---- ranges, fractions

    private static boolean in(long value, long least, long most) {
        return value >= least && value <= most;
    }

    private boolean noFilter(int i) {
        return !in(i, 0, s.pile.size() - 1);
    }

    private boolean noBehind(int k) {
        return !in(k, 0, s.pile.size());
    }

    private static long fraction(BigInteger above, BigInteger below, int part) {
        BigInteger common = above.gcd(below);
        return (part == 0 ? above : below).divide(common).longValueExact();
    }

    private long leftOf(List<BigInteger> light, int part) {
        BigInteger lampI = s.lamp.at[0][0];
        if (lampI.signum() == 0) {
            return VOID;
        }
        return fraction(light.get(0), lampI.shiftLeft(light.get(4).intValue()), part);
    }

    private static boolean mayBe(BigInteger i, BigInteger q, BigInteger u, BigInteger v) {
        BigInteger rest = q.multiply(q).add(u.multiply(u)).add(v.multiply(v));
        return i.signum() >= 0 && rest.compareTo(i.multiply(i)) <= 0;
    }

    private static BigInteger big(long value) {
        return BigInteger.valueOf(value);
    }

    // ---- the lamp, the pile

    int lamp(int i, int q, int u, int v) {
        if (!in(i, 0, 1000) || !mayBe(big(i), big(q), big(u), big(v))) {
            return BAD;
        }
        s.lamp = column(i, q, u, v, 0);
        return 1;
    }

    int add(int kind, int angle, int figure) {
        if (!in(kind, 0, 6)) {
            return NONE;
        }
        if (!in(angle, 0, 3) || !in(figure, 0, 16)) {
            return BAD;
        }
        return append(new Filter(kind, angle, figure));
    }

    private int append(Filter f) {
        if (s.pile.size() == 8) {
            return FULL;
        }
        s.pile.add(f);
        return s.pile.size() - 1;
    }

    int change(int i, int what, int v) {
        if (noFilter(i) || !in(what, 0, 2)) {
            return NONE;
        }
        int[] most = {6, 3, 16};
        if (!in(v, 0, most[what])) {
            return BAD;
        }
        Filter f = s.pile.get(i);
        int[] parts = {f.kind, f.angle, f.figure};
        int was = parts[what];
        parts[what] = v;
        s.pile.set(i, new Filter(parts[0], parts[1], parts[2]));
        return was;
    }

    int turn(int i, int by) {
        if (noFilter(i)) {
            return NONE;
        }
        Filter f = s.pile.get(i);
        int angle = (int) Math.floorMod((long) f.angle + by, 4L);
        s.pile.set(i, new Filter(f.kind, angle, f.figure));
        return angle;
    }

    int move(int i, int j) {
        if (noFilter(i) || noFilter(j)) {
            return NONE;
        }
        s.pile.add(j, s.pile.remove(i));
        return i == j ? 0 : 1;
    }

    int cut(int i) {
        if (noFilter(i)) {
            return NONE;
        }
        s.pile.remove(i);
        return s.pile.size();
    }

    int clear() {
        int were = s.pile.size();
        s.pile.clear();
        return were;
    }

    int of(int i, int what) {
        if (noFilter(i) || !in(what, 0, 6)) {
            return NONE;
        }
        Filter f = s.pile.get(i);
        boolean sheet = f.kind == 2 || f.kind == 3;
        boolean plate = f.kind == 4 || f.kind == 5;
        int[] answers = {f.kind, f.angle, f.figure, sheet ? f.kind == 3 ? 4 : f.figure / 4 : NOT,
            sheet ? f.kind == 3 ? 0 : f.figure % 4 : NOT, plate ? f.figure % 4 : NOT, f.code()};
        return answers[what];
    }

    int isUnder(int i, int kind) {
        if (noFilter(i) || !in(kind, 0, 6)) {
            return NONE;
        }
        String[] all = {"0", "01", "012", "0123", "04", "045", "016"};
        return all[s.pile.get(i).kind].indexOf('0' + kind) >= 0 ? 1 : 0;
    }

    // ---- light

    long light(int k, int what) {
        return noBehind(k) || !in(what, 0, 4) ? VOID : behind(k).get(what).longValueExact();
    }

    long left(int k, int part) {
        return noBehind(k) || !in(part, 0, 1) ? VOID : leftOf(behind(k), part);
    }

    /** The parts of DEGREE: QQ, UU, VV, two sums, II, each behind the common divisor. */
    private static BigInteger[] squares(List<BigInteger> light) {
        BigInteger common = light.get(0).gcd(light.get(1)).gcd(light.get(2)).gcd(light.get(3));
        BigInteger[] each = new BigInteger[4];
        for (int n = 0; n < 4; n++) {
            each[n] = light.get(n).divide(common).pow(2);
        }
        BigInteger two = each[1].add(each[2]);
        return new BigInteger[] {each[1], each[2], each[3], two, two.add(each[3]), each[0]};
    }

    private boolean isOver(BigInteger[] squares) {
        for (int n = 0; n < 6; n++) {
            if (squares[n].bitLength() > 63) {
                troubles = new ArrayList<>(List.of(new int[] {4, n}));
                return true;
            }
        }
        return false;
    }

    long degree(int k, int part) {
        if (noBehind(k) || !in(part, 0, 1) || behind(k).get(0).signum() == 0) {
            return VOID;
        }
        BigInteger[] squares = squares(behind(k));
        return isOver(squares) ? VOID : fraction(squares[4], squares[5], part);
    }

    int sort(int k) {
        if (noBehind(k)) {
            return NONE;
        }
        List<BigInteger> light = behind(k);
        boolean noQU = light.get(1).signum() == 0 && light.get(2).signum() == 0;
        boolean noV = light.get(3).signum() == 0;
        if (light.get(0).signum() == 0) {
            return 0;
        }
        if (noQU && noV) {
            return 1;
        }
        BigInteger[] squares = squares(light);
        if (isOver(squares)) {
            return OVER;
        }
        if (!squares[4].equals(squares[5])) {
            return 5;
        }
        return noV ? 2 : noQU ? 3 : 4;
    }

    private static int compareI(List<BigInteger> a, List<BigInteger> b) {
        return a.get(0).shiftLeft(b.get(4).intValue()).compareTo(b.get(0).shiftLeft(a.get(4).intValue()));
    }

    /** All rows of 1 .. n as digits, in rising order. */
    private static List<String> rows(String begun, int n) {
        if (begun.length() == n) {
            return List.of(begun);
        }
        List<String> all = new ArrayList<>();
        for (char digit = '1'; digit <= '0' + n; digit++) {
            if (begun.indexOf(digit) < 0) {
                all.addAll(rows(begun + digit, n));
            }
        }
        return all;
    }

    private List<BigInteger> byOrder(String digits) {
        List<Filter> row = new ArrayList<>();
        for (char digit : digits.toCharArray()) {
            row.add(s.pile.get(digit - '1'));
        }
        return out(row);
    }

    /** sign 1: the greatest, -1: the least; of like ones the first. */
    private String orderBy(int sign) {
        String best = null;
        for (String row : rows("", s.pile.size())) {
            if (best == null || sign * compareI(byOrder(row), byOrder(best)) > 0) {
                best = row;
            }
        }
        return best;
    }

    int order(int what) {
        if (!in(what, 0, 3)) {
            return NONE;
        }
        if (s.pile.size() > 5) {
            return STATE;
        }
        if (what < 2) {
            String row = orderBy(what == 0 ? -1 : 1);
            return row.isEmpty() ? 0 : Integer.parseInt(row);
        }
        Map<List<BigInteger>, Integer> lights = new HashMap<>();
        for (String row : rows("", s.pile.size())) {
            lights.merge(byOrder(row), 1, Integer::sum);
        }
        return what == 2 ? lights.size() : lights.values().stream().max(Integer::compare).get();
    }

    long orderLight(int which, int what) {
        if (!in(which, 0, 1) || !in(what, 0, 4) || s.pile.size() > 5) {
            return VOID;
        }
        return byOrder(orderBy(which == 0 ? -1 : 1)).get(what).longValueExact();
    }

    long matrix(int r, int c, int what) {
        if (!in(r, 0, 3) || !in(c, 0, 3) || !in(what, 0, 1)) {
            return VOID;
        }
        Grid all = matrixOf(s.pile);
        BigInteger number = all.at[r][c];
        int e = all.e;
        while (e > 0 && !number.testBit(0)) {
            number = number.shiftRight(1);
            e--;
        }
        return what == 0 ? number.longValueExact() : e;
    }

    int trade(int i, int j) {
        if (noFilter(i) || noFilter(j)) {
            return NONE;
        }
        Grid one = matrixOf(List.of(s.pile.get(i), s.pile.get(j)));
        Grid other = matrixOf(List.of(s.pile.get(j), s.pile.get(i)));
        return Arrays.deepEquals(one.at, other.at) ? 1 : 0;
    }

    private List<BigInteger> outWith(int i, Filter f) {
        List<Filter> pile = new ArrayList<>(s.pile);
        pile.set(i, f);
        return out(pile);
    }

    int angle(int i, int what) {
        if (noFilter(i) || !in(what, 0, 2)) {
            return NONE;
        }
        List<List<BigInteger>> lights = new ArrayList<>();
        for (int angle = 0; angle < 4; angle++) {
            lights.add(outWith(i, new Filter(s.pile.get(i).kind, angle, s.pile.get(i).figure)));
        }
        if (what == 2) {
            return (int) lights.stream().distinct().count();
        }
        int best = 3;
        for (int angle = 2; angle >= 0; angle--) {
            int compared = compareI(lights.get(angle), lights.get(best));
            best = (what == 0 ? compared >= 0 : compared <= 0) ? angle : best;
        }
        return best;
    }

    long without(int i, int part) {
        if (noFilter(i) || !in(part, 0, 1)) {
            return VOID;
        }
        List<Filter> pile = new ArrayList<>(s.pile);
        pile.remove(i);
        return leftOf(out(pile), part);
    }

    int darkens() {
        for (int k = 0; k <= s.pile.size(); k++) {
            if (behind(k).get(0).signum() == 0) {
                return k;
            }
        }
        return NOT;
    }

    int crossed(int what) {
        if (!in(what, 0, 1)) {
            return NONE;
        }
        List<Integer> pairs = new ArrayList<>();
        for (int i = 0; i < s.pile.size(); i++) {
            for (int j = i + 1; j < s.pile.size(); j++) {
                if (matrixOf(List.of(s.pile.get(i), s.pile.get(j))).at[0][0].signum() == 0) {
                    pairs.add(10 * i + j);
                }
            }
        }
        return what == 0 ? pairs.size() : pairs.isEmpty() ? NOT : pairs.get(0);
    }

    int tally(int what) {
        if (!in(what, 0, 2)) {
            return NONE;
        }
        List<Integer> codes = new ArrayList<>();
        s.pile.forEach(f -> codes.add(f.code()));
        int most = 0;
        int code = NOT;
        for (int one : codes) {
            int have = (int) codes.stream().filter(other -> other == one).count();
            code = have > most ? one : code;
            most = Math.max(most, have);
        }
        return what == 0 ? (int) codes.stream().distinct().count() : what == 1 ? code : most;
    }

    // ---- lists, told light

    int list(int list, int n) {
        if (!in(list, 0, 2)) {
            return NONE;
        }
        if (n > 12) {
            return BAD;
        }
        if (n < -1) {
            return BELOW;
        }
        lists[list] = n == -1 ? null : new long[n];
        return 1;
    }

    int put(int list, int i, long v) {
        if (!in(list, 0, 2)) {
            return NONE;
        }
        if (lists[list] == null) {
            return MISSING;
        }
        if (!in(i, 0, lists[list].length - 1)) {
            return PLACE;
        }
        lists[list][i] = v;
        return 1;
    }

    long get(int list, int i) {
        if (!in(list, 0, 2) || lists[list] == null || !in(i, 0, lists[list].length - 1)) {
            return VOID;
        }
        return lists[list][i];
    }

    int lay(int list, int k) {
        if (!in(list, 0, 2) || noBehind(k)) {
            return NONE;
        }
        lists[list] = behind(k).stream().mapToLong(BigInteger::longValueExact).toArray();
        return 1;
    }

    int readings(int list) {
        if (!in(list, 0, 2)) {
            return NONE;
        }
        long[] x = behind(s.pile.size()).stream().mapToLong(BigInteger::longValueExact).toArray();
        lists[list] = new long[] {x[0] + x[1], x[0] + x[2], x[0] - x[1], x[0] + x[3], x[4] + 1};
        return 1;
    }

    long refound(int list, int what) {
        if (!in(list, 0, 2) || !in(what, 0, 5) || lists[list] == null || lists[list].length < 5) {
            return VOID;
        }
        long[] r = lists[list];
        for (int n = 0; n < 4; n++) {
            if (!in(r[n], 0, 1000000)) {
                return VOID;
            }
        }
        if (!in(r[4], 1, 20)) {
            return VOID;
        }
        long i = r[0] + r[2];
        long[] x = {i, r[0] - r[2], 2 * r[1] - i, 2 * r[3] - i};
        if (what == 5) {
            return mayBe(big(x[0]), big(x[1]), big(x[2]), big(x[3])) ? 1 : 0;
        }
        return column(x[0], x[1], x[2], x[3], (int) r[4]).lowest().get(what).longValueExact();
    }

    /** The LIGHT that a LIST tells, or null. */
    private Grid told(int list) {
        long[] x = lists[list];
        if (x == null || x.length < 5 || !in(x[0], 0, 1000000) || !in(x[4], 0, 20)) {
            return null;
        }
        return mayBe(big(x[0]), big(x[1]), big(x[2]), big(x[3])) ? column(x[0], x[1], x[2], x[3], (int) x[4]) : null;
    }

    long through(int list, int what) {
        if (!in(list, 0, 2) || !in(what, 0, 4) || told(list) == null) {
            return VOID;
        }
        return matrixOf(s.pile).times(told(list)).lowest().get(what).longValueExact();
    }

    long before(int list, int what) {
        if (!in(list, 0, 2) || !in(what, 0, 4) || told(list) == null
            || s.pile.stream().anyMatch(f -> f.kind != 0 && f.kind != 4 && f.kind != 5)) {
            return VOID;
        }
        // Turns alone: the way back is the matrix with rows for columns.
        Grid all = matrixOf(s.pile);
        BigInteger[][] back = new BigInteger[4][4];
        for (int r = 0; r < 4; r++) {
            for (int c = 0; c < 4; c++) {
                back[r][c] = all.at[c][r];
            }
        }
        return new Grid(back, 0).times(told(list)).lowest().get(what).longValueExact();
    }

    int found(int list, int i, int what) {
        if (!in(list, 0, 2) || noFilter(i) || !in(what, 0, 2)) {
            return NONE;
        }
        if (lists[list] == null) {
            return MISSING;
        }
        if (told(list) == null) {
            return BAD;
        }
        List<BigInteger> told = told(list).lowest();
        List<Filter> hits = new ArrayList<>();
        for (int code = 0; code < 7000; code++) {
            Filter f = new Filter(code / 1000, code / 100 % 10, code % 100);
            if (f.angle < 4 && f.figure < 17 && outWith(i, f).equals(told)) {
                hits.add(f);
            }
        }
        int kinds = 0;
        for (Filter f : hits) {
            kinds |= 1 << f.kind;
        }
        return what == 0 ? hits.size() : what == 2 ? kinds : hits.isEmpty() ? NOT : hits.get(0).code();
    }

    // ---- floats

    private double measured(int k) {
        List<BigInteger> light = behind(k);
        return Math.scalb(light.get(0).doubleValue(), -light.get(4).intValue());
    }

    long meter(int k, int what) {
        if (noBehind(k) || !in(what, 0, 1)) {
            return VOID;
        }
        double measured = measured(k);
        return what == 0 ? Float.floatToIntBits((float) measured) : Double.doubleToLongBits(measured);
    }

    int expose(int cell) {
        if (!in(cell, 0, 7)) {
            return NONE;
        }
        s.cells[cell] += (float) measured(s.pile.size());
        return Float.floatToIntBits(s.cells[cell]);
    }

    int dim(int cell, int n) {
        if (!in(cell, 0, 7)) {
            return NONE;
        }
        if (!in(n, 0, 16)) {
            return BAD;
        }
        s.cells[cell] = s.cells[cell] * n / 16;
        return Float.floatToIntBits(s.cells[cell]);
    }

    int film(int cell, int what) {
        if (!in(cell, 0, 7) || !in(what, 0, 2)) {
            return NONE;
        }
        float value = s.cells[cell];
        return what == 0 ? Float.floatToIntBits(value)
            : what == 1 ? (int) (value * 1000f) : value > (float) measured(s.pile.size()) ? 1 : 0;
    }

    long sumFilm(int what) {
        if (!in(what, 0, 1)) {
            return VOID;
        }
        float narrow = 0;
        double wide = 0;
        for (float cell : s.cells) {
            narrow += cell;
            wide += cell;
        }
        return what == 0 ? Float.floatToIntBits(narrow) : Double.doubleToLongBits(wide);
    }

    // ---- racks

    int store(int rack, int i, int k) {
        if (!in(rack, 0, 2) || noFilter(k)) {
            return NONE;
        }
        if (!in(i, 0, 3)) {
            return PLACE;
        }
        String[] kinds = {"23", "45", "0123456"};
        if (kinds[s.takes[rack]].indexOf('0' + s.pile.get(k).kind) < 0) {
            return KIND;
        }
        s.racks[rack][i] = s.pile.get(k);
        return 1;
    }

    int empty(int rack, int i) {
        if (!in(rack, 0, 2)) {
            return NONE;
        }
        if (!in(i, 0, 3)) {
            return PLACE;
        }
        Filter held = s.racks[rack][i];
        s.racks[rack][i] = null;
        return held == null ? NOT : held.code();
    }

    int fetch(int rack, int i) {
        if (!in(rack, 0, 2)) {
            return NONE;
        }
        if (!in(i, 0, 3)) {
            return PLACE;
        }
        return s.racks[rack][i] == null ? NOT : append(s.racks[rack][i]);
    }

    int rack(int rack, int i) {
        if (!in(rack, 0, 2)) {
            return NONE;
        }
        if (!in(i, -1, 3)) {
            return PLACE;
        }
        if (i == -1) {
            return s.takes[rack];
        }
        return s.racks[rack][i] == null ? NOT : s.racks[rack][i].code();
    }

    private int racked(int rack) {
        return (int) Arrays.stream(s.racks[rack]).filter(f -> f != null).count();
    }

    int copy(int rack, int other) {
        if (!in(rack, 0, 2) || !in(other, 0, 2)) {
            return NONE;
        }
        s.racks[other] = s.racks[rack].clone();
        s.takes[other] = s.takes[rack];
        return racked(other);
    }

    // ---- texts

    int feed(int letter) {
        if (!in(letter, 1, 127)) {
            return BAD;
        }
        if (tape.length() == 60) {
            return FULL;
        }
        tape.append((char) letter);
        return tape.length();
    }

    int wipe() {
        int had = tape.length();
        tape.setLength(0);
        return had;
    }

    /**
     * What may come, a letter for each: i an item, ( the opening of a group, e the end of an item,
     * a an angle, b an angle and a number behind it, comma, n a number, m its second figure or its end.
     */
    int read() {
        String text = tape.toString();
        tape.setLength(0);
        List<Integer> opens = new ArrayList<>();
        List<Integer> times = new ArrayList<>();
        List<List<Filter>> levels = new ArrayList<>(List.of(new ArrayList<>()));
        char may = 'i';
        int kind = 0;
        int angle = 0;
        int figure = 0;
        for (int place = 0; place < text.length(); place++) {
            char sign = text.charAt(place);
            boolean isFigure = sign >= '0' && sign <= '9';
            if (may == 'm' && isFigure) {
                figure = 10 * figure + sign - '0';
                if (figure > 16) {
                    return fault(opens, place);
                }
                may = 'e';
                continue;
            }
            if (may == 'm' || may == 'e') {
                if (sign == ';') {
                    levels.get(opens.size()).add(new Filter(kind, angle, figure));
                    may = 'i';
                } else if (sign == ')' && !opens.isEmpty()) {
                    levels.get(opens.size()).add(new Filter(kind, angle, figure));
                    kind = close(opens, times, levels);
                    may = 'e';
                } else {
                    return fault(opens, place);
                }
            } else if (may == 'i') {
                kind = "gyspwrf".indexOf(sign);
                angle = 0;
                figure = 0;
                if (kind >= 0) {
                    may = "enbabnn".charAt(kind);
                } else if (sign >= '2' && sign <= '4' && opens.size() < 3) {
                    times.add(sign - '0');
                    may = '(';
                } else {
                    return fault(opens, place);
                }
            } else if (may == '(' && sign == '(') {
                opens.add(place);
                levels.add(new ArrayList<>());
                may = 'i';
            } else if ((may == 'a' || may == 'b') && sign >= '0' && sign <= '3') {
                angle = sign - '0';
                may = may == 'a' ? 'e' : ',';
            } else if (may == ',' && sign == ',') {
                may = 'n';
            } else if (may == 'n' && isFigure) {
                figure = sign - '0';
                may = 'm';
            } else {
                return fault(opens, place);
            }
        }
        if (may != 'e' && may != 'm' || !opens.isEmpty()) {
            return fault(opens, text.length());
        }
        levels.get(0).add(new Filter(kind, angle, figure));
        levels.get(0).removeIf(f -> f.kind == CLOSED);
        if (levels.get(0).size() > 8) {
            troubles = new ArrayList<>(List.of(new int[] {3, levels.get(0).size()}));
            return FULL;
        }
        s.pile = new ArrayList<>(levels.get(0));
        return s.pile.size();
    }

    /** Stands for an item that was a group: its filters are in the level already. */
    private static final int CLOSED = 9;

    private static int close(List<Integer> opens, List<Integer> times, List<List<Filter>> levels) {
        List<Filter> inner = levels.remove(opens.size());
        opens.remove(opens.size() - 1);
        int repeated = times.remove(times.size() - 1);
        for (int n = 0; n < repeated; n++) {
            levels.get(opens.size()).addAll(inner);
        }
        return CLOSED;
    }

    private int fault(List<Integer> opens, int place) {
        troubles = new ArrayList<>();
        opens.forEach(open -> troubles.add(new int[] {2, open}));
        troubles.add(new int[] {1, place});
        return -100 - place;
    }

    int why(int i, int what) {
        if (i < 0 || !in(what, 0, 1)) {
            return NONE;
        }
        return i < troubles.size() ? troubles.get(i)[what] : NOT;
    }

    int spelled(int i) {
        List<String> items = new ArrayList<>();
        for (Filter f : s.pile) {
            String[] tails = {"", "" + f.figure, f.angle + "," + f.figure, "" + f.angle, f.angle + "," + f.figure,
                "" + f.figure, "" + f.figure};
            items.add("gyspwrf".charAt(f.kind) + tails[f.kind]);
        }
        String text = String.join(";", items);
        return i == -1 ? text.length() : in(i, 0, text.length() - 1) ? text.charAt(i) : NONE;
    }

    // ---- the image

    int image() {
        image = s.copy();
        return s.pile.size();
    }

    int undo() {
        if (image == null) {
            return STATE;
        }
        s = image.copy();
        return s.pile.size();
    }

    int count(int what) {
        int lit = 0;
        for (float cell : s.cells) {
            lit += cell != 0 ? 1 : 0;
        }
        int[] counts = {s.pile.size(), tape.length(), troubles.size(), racked(0) + racked(1) + racked(2), lit};
        return in(what, 0, 4) ? counts[what] : NONE;
    }
}
