/** Promises 48 to 50: the image, counts. */
public final class ImageTest {
    public static void main(String[] args) {
        image();
        whatStays();
        lastImage();
        count();
        Due.end();
    }

    private static void image() {
        FilterPile x = new FilterPile();
        Due.due("49 undo", x.undo(), FilterPile.STATE);
        x.lamp(9, 1, 2, 3);
        Due.read(x, "s1,9;w2,3");
        x.expose(4);
        int cell = x.film(4, 0);
        x.store(0, 1, 0);
        x.store(1, 2, 1);
        Due.due("48 image", x.image(), 2);
        x.lamp(5, 0, 0, 0);
        x.add(6, 0, 1);
        x.change(0, 0, 6);
        x.expose(4);
        x.expose(0);
        x.empty(0, 1);
        x.copy(1, 2);
        x.store(1, 0, 1);
        for (int times = 0; times < 2; times++) {
            Due.due("49 undo", x.undo(), 2);
            Due.dueLight("49 LAMP", x, 0, 9, 1, 2, 3, 0);
            Due.dueText("49 THE PILE", Due.spelled(x), "s1,9;w2,3");
            Due.due("49 FILM", x.film(4, 0), cell);
            Due.due("49 FILM", x.film(0, 0), 0);
            Due.due("49 RACKS", x.rack(0, 1), 2109);
            Due.due("49 RACKS", x.rack(1, 2), 4203);
            Due.due("49 RACKS", x.rack(1, 0), FilterPile.NOT);
            Due.due("49 RACKS", x.rack(2, 2), FilterPile.NOT);
            Due.due("49 what they take", x.rack(2, -1), 2);
            Due.due("49 RACKS", x.count(3), 2);
            // What is changed behind undo() leaves THE IMAGE as it is.
            x.lamp(0, 0, 0, 0);
            x.turn(0, 1);
            x.dim(4, 0);
            x.empty(1, 2);
            x.copy(0, 2);
        }
    }

    private static void whatStays() {
        FilterPile x = new FilterPile();
        Due.list(x, 0, 1, 2);
        Due.feed(x, "g");
        Due.due("48 image", x.image(), 0);
        x.put(0, 0, 7);
        x.list(1, 1);
        x.feed(';');
        Due.due("49 undo", x.undo(), 0);
        Due.due("49 LISTS stay", x.get(0, 0), 7);
        Due.due("49 LISTS stay", x.get(1, 0), 0);
        Due.due("49 THE TAPE stays", x.count(1), 2);
        Due.due("49 read", x.read(), -102);
        Due.due("49 undo", x.undo(), 0);
        Due.dueWhy("49 WHY stays", x, 1, 2);
    }

    private static void lastImage() {
        FilterPile x = new FilterPile();
        x.image();
        x.add(0, 0, 0);
        Due.due("48 image", x.image(), 1);
        x.clear();
        Due.due("49 the latest", x.undo(), 1);
        Due.due("49 another object has none", new FilterPile().undo(), FilterPile.STATE);
    }

    private static void count() {
        FilterPile x = new FilterPile();
        Due.read(x, "p0;p1;r1");
        Due.feed(x, "2(2(");
        x.read();
        Due.feed(x, "gg");
        x.store(0, 0, 0);
        x.store(0, 3, 1);
        x.store(1, 0, 2);
        x.store(2, 0, 0);
        x.expose(0);
        x.expose(7);
        x.expose(6);
        x.dim(6, 0);
        int[] due = {3, 2, 3, 4, 2};
        for (int what = 0; what < 5; what++) {
            Due.due("50 count(" + what + ")", x.count(what), due[what]);
        }
        Due.due("50 count", x.count(5), FilterPile.NONE);
        Due.due("50 count", x.count(-1), FilterPile.NONE);
    }
}
