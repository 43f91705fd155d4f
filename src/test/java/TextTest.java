/** Promises 43 to 47: texts. */
public final class TextTest {
    public static void main(String[] args) {
        feed();
        wipe();
        texts();
        faults();
        full();
        why();
        spelled();
        Due.end();
    }

    private static void feed() {
        FilterPile x = new FilterPile();
        Due.due("43 feed", x.feed(0), FilterPile.BAD);
        Due.due("43 feed", x.feed(128), FilterPile.BAD);
        Due.due("43 feed", x.feed(-1), FilterPile.BAD);
        Due.due("43 feed", x.feed(1), 1);
        Due.due("43 feed", x.feed(127), 2);
        for (int n = 3; n <= 60; n++) {
            Due.due("43 feed", x.feed('g'), n);
        }
        Due.due("43 feed", x.feed('g'), FilterPile.FULL);
        Due.due("43 feed", x.feed(128), FilterPile.BAD);
        Due.due("43 feed", x.count(1), 60);
    }

    private static void wipe() {
        FilterPile x = new FilterPile();
        Due.due("44 wipe", x.wipe(), 0);
        Due.feed(x, "xx");
        Due.due("44 wipe", x.wipe(), 2);
        Due.due("44 wipe", x.count(1), 0);
        Due.due("44 wiped", Due.read(x, "g"), 1);
        Due.due("44 wipe", x.wipe(), 0);
    }

    private static void dueRead(String text, String spelled, int filters) {
        FilterPile x = new FilterPile();
        Due.due("45 read " + text, Due.read(x, text), filters);
        Due.dueText("45 read " + text, Due.spelled(x), spelled);
        Due.due("45 THE TAPE is empty", x.count(1), 0);
        Due.due("45 no TROUBLE", x.count(2), 0);
    }

    private static void texts() {
        dueRead("g", "g", 1);
        dueRead("y0;y9;y16;y07;y00", "y0;y9;y16;y7;y0", 5);
        dueRead("s0,0;s3,16;p2;w1,07;r3;f15", "s0,0;s3,16;p2;w1,7;r3;f15", 6);
        dueRead("2(g;y1)", "g;y1;g;y1", 4);
        dueRead("4(2(r1))", "r1;r1;r1;r1;r1;r1;r1;r1", 8);
        dueRead("2(2(2(r1)))", "r1;r1;r1;r1;r1;r1;r1;r1", 8);
        dueRead("2(r1;2(r2);r3)", "r1;r2;r2;r3;r1;r2;r2;r3", 8);
        dueRead("3(p0);2(2(p1));g", "p0;p0;p0;p1;p1;p1;p1;g", 8);
        FilterPile x = new FilterPile();
        Due.read(x, "s2,9;g");
        Due.due("45 CODE", x.of(0, 6), 2209);
        Due.read(x, "p2;r5");
        Due.due("45 FIGURE 0 where it is not told", x.of(0, 6), 3200);
        Due.due("45 ANGLE 0 where it is not told", x.of(1, 6), 5005);
        Due.due("45 in place of what was", x.count(0), 2);
    }

    private static void dueFault(String text, int place, int... opens) {
        FilterPile x = new FilterPile();
        x.add(4, 3, 2);
        Due.due("45 read " + text, Due.read(x, text), -100 - place);
        int[] why = new int[2 * opens.length + 2];
        for (int i = 0; i < opens.length; i++) {
            why[2 * i] = 2;
            why[2 * i + 1] = opens[i];
        }
        why[2 * opens.length] = 1;
        why[2 * opens.length + 1] = place;
        Due.dueWhy("46 " + text, x, why);
        Due.due("45 THE TAPE is empty", x.count(1), 0);
        Due.dueText("45 THE PILE stays", Due.spelled(x), "w3,2");
    }

    private static void faults() {
        dueFault("", 0);
        dueFault("x", 0);
        dueFault(" g", 0);
        dueFault("G", 0);
        dueFault(";", 0);
        dueFault("g;", 2);
        dueFault("g;;g", 2);
        dueFault("gg", 1);
        dueFault("g1", 1);
        dueFault("g ", 1);
        dueFault("g)", 1);
        dueFault("y", 1);
        dueFault("y;", 1);
        dueFault("y-1", 1);
        dueFault("y/", 1);
        dueFault("y:", 1);
        dueFault("y0:", 2);
        dueFault("y1/", 2);
        dueFault("y17", 2);
        dueFault("y20", 2);
        dueFault("y99", 2);
        dueFault("y170", 2);
        dueFault("y160", 3);
        dueFault("y1000", 3);
        dueFault("y007", 3);
        dueFault("y1,1", 2);
        dueFault("s", 1);
        dueFault("s4,1", 1);
        dueFault("s1", 2);
        dueFault("s1;", 2);
        dueFault("s11", 2);
        dueFault("s1,", 3);
        dueFault("s1,x", 3);
        dueFault("s1,17", 4);
        dueFault("p", 1);
        dueFault("p4", 1);
        dueFault("p1,1", 2);
        dueFault("p11", 2);
        dueFault("w,1", 1);
        dueFault("r", 1);
        dueFault("f25", 2);
        dueFault("1(g)", 0);
        dueFault("5(g)", 0);
        dueFault("0(g)", 0);
        dueFault("(g)", 0);
        dueFault("2", 1);
        dueFault("2g", 1);
        dueFault("22(g)", 1);
        dueFault("2(", 2, 1);
        dueFault("2()", 2, 1);
        dueFault("2(g", 3, 1);
        dueFault("2(g;)", 4, 1);
        dueFault("2(g))", 4);
        dueFault("2(g)g", 4);
        dueFault("2(g)2(g)", 4);
        dueFault("g;2(g;3(y1;4(s0,1;p", 19, 3, 7, 12);
        dueFault("2(3(4(g;2(g))))", 8, 1, 3, 5);
        dueFault("2(3(4(g);x", 9, 1, 3);
        dueFault("2(3(4(g);2(", 11, 1, 3, 10);
        dueFault("2(g);2(g;x)", 9, 6);
        dueFault("4(4(4(g)));x", 11);
        dueFault("g;g;g;g;g;g;g;g;g;g;g;g;g;g;g;g;g;g;g;g;g;g;g;g;g;g;g;g;g;g;", 60);
        FilterPile x = new FilterPile();
        Due.due("45 nothing on THE TAPE", x.read(), -100);
        x.feed(1);
        Due.due("45 any byte", x.read(), -100);
        x.feed(127);
        Due.due("45 any byte", x.read(), -100);
    }

    private static void dueFull(String text, int filters) {
        FilterPile x = new FilterPile();
        x.add(4, 3, 2);
        Due.due("45 read " + text, Due.read(x, text), FilterPile.FULL);
        Due.dueWhy("46 " + text, x, 3, filters);
        Due.due("45 THE TAPE is empty", x.count(1), 0);
        Due.dueText("45 THE PILE stays", Due.spelled(x), "w3,2");
    }

    private static void full() {
        dueFull("g;g;g;g;g;g;g;g;g", 9);
        dueFull("3(3(g))", 9);
        dueFull("4(2(g));g", 9);
        dueFull("4(4(4(g)))", 64);
        dueFull("4(4(4(g;g;g;g;g;g;g;g;g;g)))", 640);
        dueFull("4(4(4(g;g;g;g;g;g;g;g;g;g;g;g;g;g;g;g;g;g;g;g;g;g;g;g;g)))", 1600);
        dueFull("g;g;g;g;g;g;g;g;g;g;g;g;g;g;g;g;g;g;g;g;g;g;g;g;g;g;g;g;g;g", 30);
    }

    private static void why() {
        FilterPile x = new FilterPile();
        Due.due("46 none", x.why(0, 0), FilterPile.NOT);
        Due.due("46 why", x.why(-1, 0), FilterPile.NONE);
        Due.due("46 why", x.why(0, 2), FilterPile.NONE);
        Due.due("46 why", x.why(99, -1), FilterPile.NONE);
        Due.due("46 why", x.why(99, 0), FilterPile.NOT);
        Due.read(x, "2(x");
        Due.dueWhy("46 fault", x, 2, 1, 1, 2);
        Due.due("46 a TEXT", Due.read(x, "g;g"), 2);
        Due.dueWhy("46 stays behind a TEXT", x, 2, 1, 1, 2);
        Due.read(x, "4(4(g))");
        Due.dueWhy("46 full", x, 3, 16);
        for (int n = 0; n < 7; n++) {
            x.add(0, 0, 0);
        }
        Due.due("46 add", x.add(0, 0, 0), FilterPile.FULL);
        Due.dueWhy("46 only read's FULL is told", x, 3, 16);
        x.image();
        x.read();
        Due.dueWhy("46 fault", x, 1, 0);
        x.undo();
        Due.dueWhy("46 undo leaves it", x, 1, 0);
    }

    private static void spelled() {
        FilterPile x = new FilterPile();
        Due.due("47 none", x.spelled(-1), 0);
        Due.due("47 none", x.spelled(0), FilterPile.NONE);
        Due.due("47 none", x.spelled(-2), FilterPile.NONE);
        for (int kind = 0; kind < 7; kind++) {
            x.add(kind, 1, 10 + kind);
        }
        x.add(2, 0, 0);
        Due.dueText("47 spelled", Due.spelled(x), "g;y11;s1,12;p1;w1,14;r15;f16;s0,0");
        int length = "g;y11;s1,12;p1;w1,14;r15;f16;s0,0".length();
        Due.due("47 spelled", x.spelled(-1), length);
        Due.due("47 spelled", x.spelled(length - 1), '0');
        Due.due("47 spelled", x.spelled(length), FilterPile.NONE);
        Due.due("47 spelled", x.spelled(Integer.MAX_VALUE), FilterPile.NONE);
        Due.due("47 spelled", x.spelled(Integer.MIN_VALUE), FilterPile.NONE);
        Due.due("47 longest", Due.read(x, "4(2(s3,16))"), 8);
        Due.due("47 longest", x.spelled(-1), 47);
        x.clear();
        Due.due("47 cleared", x.spelled(-1), 0);
    }
}
