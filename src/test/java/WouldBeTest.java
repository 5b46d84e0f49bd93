/** Promises 21 to 25: what would be. */
public final class WouldBeTest {
    private static final Class<IllegalStateException> BAD_STATE = IllegalStateException.class;
    private static final Class<IndexOutOfBoundsException> NOT_THERE = IndexOutOfBoundsException.class;
    private static final int NONE = HarvestBoxes.NONE;
    private static final int[] FAR = {-1, 2, Integer.MIN_VALUE, Integer.MAX_VALUE};

    public static void main(String[] args) {
        promises21And22();
        promise23();
        promise24();
        promise25();
        promise25Ties();
        Check.end("WouldBeTest");
    }

    private static void promises21And22() {
        HarvestBoxes x = Check.farm("Fh10h10v06v06v01l009l011l101l119l028");
        int[][] due = {{6, 0, 1}, {0, 6, 0}};
        Check.keeps(x, "wouldGet and wouldBe", () -> {
            for (int h = 0; h < 2; h++) {
                for (int v = 0; v < 3; v++) {
                    Check.same("wouldGet(" + h + ", " + v + ")", x.wouldGet(h, v), due[h][v]);
                }
            }
            Check.same("wouldBe(0)", x.wouldBe(0), 62);
            Check.same("wouldBe(1)", x.wouldBe(1), 54);
        });
        Check.fails("they are no actions", BAD_STATE, () -> x.undo());
        x.pack();
        Check.boxes(x, "so it is", due);
        Check.same("an empty box would be", x.wouldGet(0, 0), 0);
        Check.same("nothing to be happy about", x.wouldBe(0), 0);
        x.setHarvest(0, 9);
        x.skip(1, true);
        Check.same("wouldGet without the other one", x.wouldGet(0, 0), 9);
        Check.same("wouldGet of one that skips", x.wouldGet(1, 0), 0);
        Check.same("wouldBe of one that skips", x.wouldBe(1), 0);
        for (int far : FAR) {
            Check.fails("wouldGet(" + far + ", 0)", NOT_THERE, () -> x.wouldGet(far, 0));
            Check.fails("wouldBe(" + far + ")", NOT_THERE, () -> x.wouldBe(far));
        }
        Check.fails("wouldGet(0, 3)", NOT_THERE, () -> x.wouldGet(0, 3));
        Check.fails("wouldGet(0, -1)", NOT_THERE, () -> x.wouldGet(0, -1));
        Check.fails("wouldGet far behind", NOT_THERE, () -> x.wouldGet(0, Integer.MAX_VALUE));
    }

    private static void bestSkip(String text, int due) {
        HarvestBoxes x = Check.farm(text);
        Check.keeps(x, "bestSkip", () -> Check.same("bestSkip of " + text, x.bestSkip(), due));
        Check.fails("bestSkip is no action", BAD_STATE, () -> x.undo());
    }

    private static void promise23() {
        bestSkip("F", NONE);
        bestSkip("Fv10", NONE);
        bestSkip("Fh10h13v10s0", NONE);
        bestSkip("Fh10", 0);
        // All is for the one that stays: 18 or 2.
        bestSkip("Fh10h10v02l009l101", 1);
        bestSkip("Fh10h10v02l001l109", 0);
        bestSkip("Fh10h10v02", 0);
        bestSkip("Fh10h10h10v06l001l101", 0);
        bestSkip("Fh10h10h10v06l101l201", 1);
        // House 0 would be best, but has no box to leave out.
        bestSkip("Fh10h10h10v06l001l101s0", 1);
        bestSkip("Fh13h10h10v06l001l101", 1);
        bestSkip("Fh10h10h10v06s0s2", 1);
        // Nobody is happy: still a house that would get a box.
        bestSkip("Fh13h10h10v06l000l100l200", 1);
        // Without house 1 the others have 2 * 9 and 4 * 0, without house 0 4 * 0 and 2 * 5, without 2 3 * 9 and 3 * 5.
        bestSkip("Fh10h10h20v06l009l200", 2);
    }

    private static void bestMore(String text, int due) {
        HarvestBoxes x = Check.farm(text);
        Check.keeps(x, "bestMore", () -> Check.same("bestMore of " + text, x.bestMore(), due));
        Check.fails("bestMore is no action", BAD_STATE, () -> x.undo());
    }

    private static void promise24() {
        bestMore("F", NONE);
        bestMore("Fh10", NONE);
        bestMore("Fh10v40", NONE);
        bestMore("Fh10v40v40v40v40v40", NONE);
        bestMore("Fh10v39", 0);
        bestMore("Fh10v05v05v05", 0);
        bestMore("Fh10v05v05v05l006l017l027", 1);
        bestMore("Fh10v05v40v05l006l019l027", 2);
        bestMore("Fh10v05v40v05l000l019l020", 0);
        // Nobody is there to be pleased: the lowest one below 40.
        bestMore("Fv40v40v03v02", 2);
        bestMore("Fh10v40v03v02s0", 1);
        // One kilo more of vegetable 0 goes to house 0, of vegetable 1 to house 1.
        bestMore("Fh10h10v02v02l007l010l100l118", 1);
        // A kilo more can be worth a swap: 0 gets it of either, but 0 swaps it for what it likes best.
        bestMore("Fh10h10v00v02l002l011l105l111", 0);
    }

    /** Two houses with two kilos of each of so many vegetables, one in each box, and all likings 5. */
    private static HarvestBoxes even(int houses, int vegetables) {
        HarvestBoxes x = new HarvestBoxes();
        for (int h = 0; h < houses; h++) {
            x.addHouse(1);
        }
        for (int v = 0; v < vegetables; v++) {
            x.addVegetable(houses);
        }
        x.pack();
        return x;
    }

    private static void likes(HarvestBoxes x, int h, int... likings) {
        for (int v = 0; v < likings.length; v++) {
            x.setLiking(h, v, likings[v]);
        }
    }

    private static void promise25() {
        HarvestBoxes x = even(2, 2);
        Check.same("no likings", x.firstSwap(), NONE);
        likes(x, 0, 6, 4);
        Check.same("the other one gains nothing", x.firstSwap(), NONE);
        likes(x, 1, 4, 6);
        Check.keeps(x, "firstSwap", () -> Check.same("firstSwap", x.firstSwap(), 110));
        likes(x, 0, 4, 6);
        likes(x, 1, 6, 4);
        Check.same("the other way", x.firstSwap(), 101);
        x.setHarvest(0, 30);
        x.skip(0, true);
        Check.same("of the boxes as they are now", x.firstSwap(), 101);
        x.give(0, 0, 1);
        Check.same("without what is given", x.firstSwap(), NONE);
        x.undo();
        x.give(1, 1, 1);
        Check.same("without what is taken", x.firstSwap(), NONE);
        x.undo();
        Check.same("firstSwap is no action", x.firstSwap(), 101);
        x.pack();
        Check.same("behind a week", x.firstSwap(), NONE);
    }

    private static void promise25Ties() {
        HarvestBoxes x = even(3, 2);
        likes(x, 0, 6, 5);
        likes(x, 1, 5, 6);
        likes(x, 2, 5, 6);
        Check.same("the lowest b", x.firstSwap(), 110);
        likes(x, 2, 5, 7);
        Check.same("the greatest gain before", x.firstSwap(), 210);
        likes(x, 0, 5, 6);
        likes(x, 1, 6, 5);
        likes(x, 2, 5, 6);
        Check.same("the lowest a", x.firstSwap(), 101);
        likes(x, 2, 5, 7);
        Check.same("the greatest gain before", x.firstSwap(), 1210);
        HarvestBoxes y = even(2, 4);
        likes(y, 0, 5, 4, 5, 9);
        likes(y, 1, 6, 5, 1, 5);
        // (0 for 3) and (1 for 2) both gain 5.
        Check.same("v before w", y.firstSwap(), 103);
        likes(y, 0, 5, 5, 6, 6);
        likes(y, 1, 6, 6, 5, 5);
        Check.same("the lowest v and the lowest w", y.firstSwap(), 102);
        likes(y, 1, 6, 7, 5, 5);
        Check.same("the greatest gain before the lowest v", y.firstSwap(), 112);
        likes(y, 1, 6, 6, 5, 4);
        Check.same("the greatest gain before the lowest w", y.firstSwap(), 103);
        HarvestBoxes z = even(6, 5);
        likes(z, 4, 0, 5, 5, 5, 9);
        likes(z, 5, 9, 5, 5, 5, 0);
        Check.same("the last houses", z.firstSwap(), 4504);
    }
}
