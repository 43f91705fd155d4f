/** Promises 1 to 10: a new object, the lamp, the pile. */
public final class PileTest {
    private static final int MOST = Integer.MAX_VALUE;
    private static final int LEAST = Integer.MIN_VALUE;

    public static void main(String[] args) {
        newObject();
        lamp();
        add();
        change();
        turn();
        move();
        cut();
        clear();
        of();
        isUnder();
        Due.end();
    }

    private static void newObject() {
        FilterPile x = new FilterPile();
        Due.dueLight("1 new", x, 0, 16, 0, 0, 0, 0);
        Due.due("1 light(1, 0)", x.light(1, 0), FilterPile.VOID);
        for (int what = 0; what < 5; what++) {
            Due.due("1 count(" + what + ")", x.count(what), 0);
        }
        for (int list = 0; list < 3; list++) {
            Due.due("1 put", x.put(list, 0, 1), FilterPile.MISSING);
        }
        for (int rack = 0; rack < 3; rack++) {
            Due.due("1 rack sort", x.rack(rack, -1), rack);
            for (int i = 0; i < 4; i++) {
                Due.due("1 rack", x.rack(rack, i), FilterPile.NOT);
            }
        }
        for (int cell = 0; cell < 8; cell++) {
            Due.due("1 film", x.film(cell, 0), 0);
        }
        Due.due("1 why", x.why(0, 0), FilterPile.NOT);
        Due.due("1 undo", x.undo(), FilterPile.STATE);
    }

    private static void lamp() {
        FilterPile x = new FilterPile();
        Due.due("2 lamp", x.lamp(1000, 0, 0, -1000), 1);
        Due.dueLight("2 lamp", x, 0, 1000, 0, 0, -1000, 0);
        Due.due("2 lamp", x.lamp(1001, 0, 0, 0), FilterPile.BAD);
        Due.due("2 lamp", x.lamp(-1, 0, 0, 0), FilterPile.BAD);
        Due.due("2 lamp", x.lamp(7, 2, 3, 6), 1);
        Due.due("2 lamp", x.lamp(7, 2, 3, 7), FilterPile.BAD);
        Due.due("2 lamp", x.lamp(7, 8, 0, 0), FilterPile.BAD);
        Due.due("2 lamp", x.lamp(7, 0, -8, 0), FilterPile.BAD);
        // Squares whose sum wraps round to something small.
        Due.due("2 lamp", x.lamp(1000, LEAST, LEAST, 0), FilterPile.BAD);
        Due.due("2 lamp", x.lamp(1000, 65536, 0, 0), FilterPile.BAD);
        Due.due("2 lamp", x.lamp(0, LEAST, LEAST, LEAST), FilterPile.BAD);
        Due.due("2 lamp", x.lamp(MOST, MOST, 0, 0), FilterPile.BAD);
        Due.dueLight("2 lamp", x, 0, 7, 2, 3, 6, 0);
        Due.due("2 lamp", x.lamp(0, 0, 0, 0), 1);
        Due.dueLight("2 lamp", x, 0, 0, 0, 0, 0, 0);
        Due.due("2 lamp", x.lamp(0, 1, 0, 0), FilterPile.BAD);
    }

    private static void add() {
        FilterPile x = new FilterPile();
        Due.due("3 add", x.add(-1, 0, 0), FilterPile.NONE);
        Due.due("3 add", x.add(7, 9, 99), FilterPile.NONE);
        Due.due("3 add", x.add(0, -1, 0), FilterPile.BAD);
        Due.due("3 add", x.add(0, 4, 0), FilterPile.BAD);
        Due.due("3 add", x.add(0, 0, -1), FilterPile.BAD);
        Due.due("3 add", x.add(0, 0, 17), FilterPile.BAD);
        Due.due("3 count", x.count(0), 0);
        for (int n = 0; n < 8; n++) {
            Due.due("3 add", x.add(n % 7, n % 4, 16 - n), n);
            Due.due("3 of", x.of(n, 6), 1000 * (n % 7) + 100 * (n % 4) + 16 - n);
        }
        Due.due("3 add", x.add(0, 0, 0), FilterPile.FULL);
        Due.due("3 add", x.add(7, 0, 0), FilterPile.NONE);
        Due.due("3 add", x.add(0, 4, 0), FilterPile.BAD);
        Due.due("3 count", x.count(0), 8);
    }

    private static void change() {
        FilterPile x = new FilterPile();
        Due.due("4 change", x.change(0, 0, 0), FilterPile.NONE);
        x.add(2, 1, 9);
        Due.due("4 change", x.change(0, 0, 6), 2);
        Due.due("4 change", x.change(0, 1, 3), 1);
        Due.due("4 change", x.change(0, 2, 16), 9);
        Due.due("4 of", x.of(0, 6), 6316);
        Due.due("4 change", x.change(0, 0, 7), FilterPile.BAD);
        Due.due("4 change", x.change(0, 0, -1), FilterPile.BAD);
        Due.due("4 change", x.change(0, 1, 4), FilterPile.BAD);
        Due.due("4 change", x.change(0, 1, -1), FilterPile.BAD);
        Due.due("4 change", x.change(0, 2, 17), FilterPile.BAD);
        Due.due("4 change", x.change(0, 2, -1), FilterPile.BAD);
        Due.due("4 change", x.change(0, 3, 99), FilterPile.NONE);
        Due.due("4 change", x.change(0, -1, 0), FilterPile.NONE);
        Due.due("4 change", x.change(1, 0, 0), FilterPile.NONE);
        Due.due("4 change", x.change(-1, 0, 0), FilterPile.NONE);
        Due.due("4 of", x.of(0, 6), 6316);
    }

    private static void turn() {
        FilterPile x = new FilterPile();
        Due.due("5 turn", x.turn(0, 1), FilterPile.NONE);
        x.add(2, 3, 9);
        Due.due("5 turn", x.turn(0, 1), 0);
        Due.due("5 turn", x.turn(0, -1), 3);
        Due.due("5 turn", x.turn(0, MOST), 2);
        Due.due("5 turn", x.turn(0, LEAST), 2);
        Due.due("5 turn", x.turn(0, -7), 3);
        Due.due("5 turn", x.turn(0, 0), 3);
        Due.due("5 of", x.of(0, 6), 2309);
        Due.due("5 turn", x.turn(-1, 0), FilterPile.NONE);
        Due.due("5 turn", x.turn(1, 0), FilterPile.NONE);
    }

    private static FilterPile greys(int many) {
        FilterPile x = new FilterPile();
        for (int n = 0; n < many; n++) {
            x.add(1, 0, n);
        }
        return x;
    }

    private static void dueFigures(String call, FilterPile x, int... figures) {
        Due.due(call + ", count(0)", x.count(0), figures.length);
        for (int i = 0; i < figures.length; i++) {
            Due.due(call + ", of(" + i + ", 2)", x.of(i, 2), figures[i]);
        }
    }

    private static void move() {
        FilterPile x = greys(8);
        Due.due("6 move", x.move(1, 4), 1);
        dueFigures("6 move(1, 4)", x, 0, 2, 3, 4, 1, 5, 6, 7);
        Due.due("6 move", x.move(7, 0), 1);
        dueFigures("6 move(7, 0)", x, 7, 0, 2, 3, 4, 1, 5, 6);
        Due.due("6 move", x.move(0, 7), 1);
        dueFigures("6 move(0, 7)", x, 0, 2, 3, 4, 1, 5, 6, 7);
        Due.due("6 move", x.move(4, 4), 0);
        Due.due("6 move", x.move(8, 8), FilterPile.NONE);
        Due.due("6 move", x.move(-1, 0), FilterPile.NONE);
        Due.due("6 move", x.move(0, 8), FilterPile.NONE);
        Due.due("6 move", x.move(0, -1), FilterPile.NONE);
        dueFigures("6 move", x, 0, 2, 3, 4, 1, 5, 6, 7);
        Due.due("6 move", new FilterPile().move(0, 0), FilterPile.NONE);
    }

    private static void cut() {
        FilterPile x = greys(8);
        Due.due("7 cut", x.cut(7), 7);
        Due.due("7 cut", x.cut(0), 6);
        Due.due("7 cut", x.cut(2), 5);
        dueFigures("7 cut", x, 1, 2, 4, 5, 6);
        Due.due("7 cut", x.cut(5), FilterPile.NONE);
        Due.due("7 cut", x.cut(-1), FilterPile.NONE);
        for (int n = 4; n >= 0; n--) {
            Due.due("7 cut", x.cut(0), n);
        }
        Due.due("7 cut", x.cut(0), FilterPile.NONE);
    }

    private static void clear() {
        FilterPile x = greys(8);
        Due.due("8 clear", x.clear(), 8);
        Due.due("8 clear", x.clear(), 0);
        Due.due("8 of", x.of(0, 0), FilterPile.NONE);
        Due.due("8 add", x.add(5, 0, 1), 0);
    }

    private static void of() {
        int[][] due = {
            {0, 1, 7, FilterPile.NOT, FilterPile.NOT, FilterPile.NOT, 107},
            {1, 2, 16, FilterPile.NOT, FilterPile.NOT, FilterPile.NOT, 1216},
            {2, 3, 14, 3, 2, FilterPile.NOT, 2314},
            {3, 1, 7, 4, 0, FilterPile.NOT, 3107},
            {4, 0, 15, FilterPile.NOT, FilterPile.NOT, 3, 4015},
            {5, 2, 16, FilterPile.NOT, FilterPile.NOT, 0, 5216},
            {6, 0, 0, FilterPile.NOT, FilterPile.NOT, FilterPile.NOT, 6000},
            {2, 0, 16, 4, 0, FilterPile.NOT, 2016},
        };
        FilterPile x = new FilterPile();
        for (int i = 0; i < due.length; i++) {
            x.add(due[i][0], due[i][1], due[i][2]);
            for (int what = 0; what < 7; what++) {
                Due.due("9 of(" + i + ", " + what + ")", x.of(i, what), due[i][what]);
            }
        }
        Due.due("9 of", x.of(0, 7), FilterPile.NONE);
        Due.due("9 of", x.of(0, -1), FilterPile.NONE);
        Due.due("9 of", x.of(-1, 0), FilterPile.NONE);
        Due.due("9 of", x.of(8, 0), FilterPile.NONE);
    }

    private static void isUnder() {
        String[] under = {"1000000", "1100000", "1110000", "1111000", "1000100", "1000110", "1100001"};
        FilterPile x = new FilterPile();
        for (int i = 0; i < 7; i++) {
            x.add(i, 0, 0);
            for (int kind = 0; kind < 7; kind++) {
                Due.due("10 isUnder(" + i + ", " + kind + ")", x.isUnder(i, kind), under[i].charAt(kind) - '0');
            }
        }
        Due.due("10 isUnder", x.isUnder(0, 7), FilterPile.NONE);
        Due.due("10 isUnder", x.isUnder(0, -1), FilterPile.NONE);
        Due.due("10 isUnder", x.isUnder(7, 0), FilterPile.NONE);
        Due.due("10 isUnder", x.isUnder(-1, 0), FilterPile.NONE);
    }
}
