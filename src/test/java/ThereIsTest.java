/** Promises 6 to 11: what there is. */
public final class ThereIsTest {
    private static final Class<IllegalArgumentException> BAD_ARGUMENT = IllegalArgumentException.class;
    private static final Class<IndexOutOfBoundsException> NOT_THERE = IndexOutOfBoundsException.class;
    private static final int NONE = HarvestBoxes.NONE;
    private static final int[] FAR = {-1, Integer.MIN_VALUE, Integer.MAX_VALUE};

    public static void main(String[] args) {
        promise6();
        promise6Swaps();
        promise7();
        promise8();
        promises9And10();
        promise11();
        asksChangeNothing();
        Check.end("ThereIsTest");
    }

    private static void abouts(HarvestBoxes x, String when, int... due) {
        for (int what = 0; what < due.length; what++) {
            Check.same(when + ": about(" + what + ")", x.about(what), due[what]);
        }
    }

    private static void promise6() {
        HarvestBoxes x = Check.farm("Fh10h20h13v10v05");
        abouts(x, "loaded", 3, 2, 0, 0, 0, 0, 0, 3, 0, 2);
        x.pack();
        abouts(x, "packed", 3, 2, 1, 15, 0, 0, 0, 5, 0, 2);
        x.give(0, 0, 2);
        abouts(x, "given", 3, 2, 1, 13, 0, 2, 0, 5, 0, 2);
        x.pack();
        abouts(x, "eaten", 3, 2, 2, 0, 13, 2, 0, 7, 0, 2);
        x.setHarvest(0, 4);
        x.setHarvest(1, 3);
        x.skip(0, true);
        x.skip(1, true);
        abouts(x, "all skip", 3, 2, 2, 0, 13, 2, 0, 7, 0, 0);
        x.pack();
        abouts(x, "composted", 3, 2, 3, 0, 13, 2, 7, 7, 0, 2);
        Check.fails("about(10)", BAD_ARGUMENT, () -> x.about(10));
        for (int what : FAR) {
            Check.fails("about(" + what + ")", BAD_ARGUMENT, () -> x.about(what));
        }
    }

    private static void promise6Swaps() {
        HarvestBoxes x = Check.farm("Fh10h10v04v04l009l011l101l119");
        Check.same("no week, no swaps", x.about(8), 0);
        x.pack();
        Check.same("the swaps of the week", x.about(8), 2);
        x.setHarvest(0, 2);
        x.setHarvest(1, 2);
        Check.same("until the next week", x.about(8), 2);
        x.pack();
        Check.same("the swaps of the last week alone", x.about(8), 1);
        x.pack();
        Check.same("a week without swaps", x.about(8), 0);
    }

    private static void houseIs(HarvestBoxes x, String when, int h, int... due) {
        for (int what = 0; what < due.length; what++) {
            Check.same(when + ": house(" + h + ", " + what + ")", x.house(h, what), due[what]);
        }
    }

    private static void promise7() {
        HarvestBoxes x = Check.farm("Fh10h42h43v10v05l003l017s1");
        houseIs(x, "loaded", 0, 1, 0, 0, 0, 0, 0, 1);
        houseIs(x, "loaded, skips", 1, 4, 2, 0, 1, 0, 0, 0);
        houseIs(x, "loaded, owes 3", 2, 4, 3, 0, 0, 0, 0, 0);
        x.pack();
        // House 0 alone gets a box: 10 kilos that it likes 3 and 5 that it likes 7.
        houseIs(x, "packed", 0, 1, 1, 0, 0, 15, 65, 1);
        houseIs(x, "packed, skipped", 1, 4, 2, 4, 0, 0, 0, 1);
        houseIs(x, "packed, owed 3", 2, 4, 3, 0, 0, 0, 0, 0);
        x.setLiking(0, 1, 0);
        Check.same("happiness is of the likings now", x.house(0, 5), 30);
        Check.fails("house(0, 7)", BAD_ARGUMENT, () -> x.house(0, 7));
        Check.fails("house(3, 0)", NOT_THERE, () -> x.house(3, 0));
        Check.fails("house(3, 7): the house first", NOT_THERE, () -> x.house(3, 7));
        for (int far : FAR) {
            Check.fails("house(0, " + far + ")", BAD_ARGUMENT, () -> x.house(0, far));
            Check.fails("house(" + far + ", 0)", NOT_THERE, () -> x.house(far, 0));
            Check.fails("house(" + far + ", 9): the house first", NOT_THERE, () -> x.house(far, 9));
        }
    }

    private static void promise8() {
        HarvestBoxes x = Check.farm("Fv10v40");
        Check.same("liked most without houses", x.vegetable(0, 3), NONE);
        x.pack();
        Check.same("composted", x.vegetable(0, 2), 10);
        Check.same("composted", x.vegetable(1, 2), 40);
        x.addHouse(1);
        x.addHouse(2);
        x.addHouse(2);
        x.setHarvest(0, 11);
        Check.same("harvest", x.vegetable(0, 0), 11);
        x.pack();
        Check.same("harvest behind a week", x.vegetable(0, 0), 0);
        Check.same("in all boxes", x.vegetable(0, 1), 11);
        Check.same("of this one alone", x.vegetable(1, 1), 0);
        Check.same("composted so far", x.vegetable(0, 2), 10);
        Check.same("the lowest of several", x.vegetable(0, 3), 0);
        x.setLiking(2, 0, 6);
        Check.same("liked most", x.vegetable(0, 3), 2);
        x.setLiking(1, 0, 6);
        Check.same("the lowest of several", x.vegetable(0, 3), 1);
        Check.same("another vegetable", x.vegetable(1, 3), 0);
        for (int h = 0; h < 3; h++) {
            x.setLiking(h, 0, 0);
        }
        Check.same("also if none likes it", x.vegetable(0, 3), 0);
        Check.fails("vegetable(0, 4)", BAD_ARGUMENT, () -> x.vegetable(0, 4));
        Check.fails("vegetable(2, 0)", NOT_THERE, () -> x.vegetable(2, 0));
        for (int far : FAR) {
            Check.fails("vegetable(0, " + far + ")", BAD_ARGUMENT, () -> x.vegetable(0, far));
            Check.fails("vegetable(" + far + ", 4): the vegetable first", NOT_THERE, () -> x.vegetable(far, 4));
        }
    }

    private static void promises9And10() {
        HarvestBoxes x = Check.farm("Fh10h20h10v09v06v00l123");
        x.pack();
        Check.boxes(x, "packed", new int[][] {{3, 2, 0}, {4, 3, 0}, {2, 1, 0}});
        Check.same("first liking", x.liking(0, 0), 5);
        Check.same("liking", x.liking(1, 2), 3);
        Check.same("first liking", x.liking(2, 1), 5);
        Check.fails("box(3, 0)", NOT_THERE, () -> x.box(3, 0));
        Check.fails("box(0, 3)", NOT_THERE, () -> x.box(0, 3));
        Check.fails("liking(3, 0)", NOT_THERE, () -> x.liking(3, 0));
        Check.fails("liking(0, 3)", NOT_THERE, () -> x.liking(0, 3));
        for (int far : FAR) {
            Check.fails("box(" + far + ", 0)", NOT_THERE, () -> x.box(far, 0));
            Check.fails("box(0, " + far + ")", NOT_THERE, () -> x.box(0, far));
            Check.fails("liking(" + far + ", 0)", NOT_THERE, () -> x.liking(far, 0));
            Check.fails("liking(0, " + far + ")", NOT_THERE, () -> x.liking(0, far));
        }
    }

    private static void promise11() {
        HarvestBoxes x = Check.farm("Fh10h10h10h10v04");
        orderIs(x, "all alike", 0, 1, 2, 3, NONE, NONE);
        x.pack();
        orderIs(x, "all alike", 0, 1, 2, 3, NONE);
        x.setLiking(2, 0, 9);
        orderIs(x, "one is happier", 2, 0, 1, 3, NONE);
        x.setLiking(0, 0, 1);
        orderIs(x, "one is less happy", 2, 1, 3, 0, NONE);
        x.setLiking(3, 0, 9);
        orderIs(x, "two are happiest", 2, 3, 1, 0, NONE);
        Check.same("order far behind", x.order(Integer.MAX_VALUE), NONE);
        Check.fails("order(-1)", BAD_ARGUMENT, () -> x.order(-1));
        Check.fails("order far before", BAD_ARGUMENT, () -> x.order(Integer.MIN_VALUE));
    }

    private static void orderIs(HarvestBoxes x, String when, int... due) {
        for (int place = 0; place < due.length; place++) {
            Check.same(when + ": order(" + place + ")", x.order(place), due[place]);
        }
    }

    private static void asksChangeNothing() {
        HarvestBoxes x = Check.farm("Fh10h22v11s0");
        x.addHouse(1);
        String before = Check.pictureOf(x);
        Check.same("asking again", Check.pictureOf(x), before);
        Check.same("asking is no action", x.undo(), 0);
    }
}
