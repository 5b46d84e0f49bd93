/** Promise 17: a week is packed. Each number is worked out by hand from the section "A week". */
public final class PackTest {
    public static void main(String[] args) {
        shares();
        gluts();
        glutsOfSomeHouses();
        nobody();
        swaps();
        swapsInOrder();
        crates();
        credits();
        whatEndsWithAWeek();
        accounts();
        Check.end("PackTest");
    }

    private static HarvestBoxes packed(String text, int swaps) {
        HarvestBoxes x = Check.farm(text);
        Check.same("pack of " + text, x.pack(), swaps);
        return x;
    }

    private static void shares() {
        Check.boxes(packed("Fh10h20h40v14v00v40", 0), "by sizes", new int[][] {{2, 0, 6}, {4, 0, 12}, {8, 0, 22}});
        Check.boxes(packed("Fh30v17", 0), "one house", new int[][] {{17}});
        Check.boxes(packed("Fh10v05l000", 0), "what is shared is no glut", new int[][] {{5}});
        Check.boxes(packed("Fh10h20s1h13v09", 0), "one gets a box", new int[][] {{9}, {0}, {0}});
        Check.boxes(packed("Fh12h13v09", 0), "two crates are no hindrance", new int[][] {{9}, {0}});
    }

    private static void gluts() {
        String six = "Fh10h10h10h10h10h10v05";
        // Wishes of house 0: 9, 7, 5, 3; of house 1: 5, 3. The third kilo and the fifth go to the lower one.
        Check.boxes(packed(six + "l009l105l201l300l400l500", 0), "a glut", new int[][] {{4}, {1}, {0}, {0}, {0}, {0}});
        // Wishes 1, -1, -3, -5, -7 are wishes still.
        Check.boxes(packed(six + "l000l100l200l301l400l500", 0), "below 0", new int[][] {{0}, {0}, {0}, {5}, {0}, {0}});
        Check.boxes(packed(six + "l000l100l202l301l400l500", 0), "two below 0",
                new int[][] {{0}, {0}, {3}, {2}, {0}, {0}});
        HarvestBoxes none = packed(six + "l000l100l200l300l400l500", 0);
        Check.same("nobody likes it", none.vegetable(0, 2), 5);
        Check.same("nobody has it", none.about(3), 0);
        // What house 2 got of the first glut does not count in the second one.
        Check.boxes(packed("Fh10h10h10v05l000l100l204v05l011l110l214", 0), "each glut by itself",
                new int[][] {{1, 1}, {1, 1}, {3, 3}});
        HarvestBoxes some = packed("Fh10h10v07l000l100", 0);
        Check.same("the shares are dealt also to those who dislike it", some.vegetable(0, 1), 6);
        Check.same("the glut is composted", some.vegetable(0, 2), 1);
    }

    private static void glutsOfSomeHouses() {
        Check.boxes(packed("Fh10h10h10v05l009l105l205s0", 0), "the keenest one skips", new int[][] {{0}, {3}, {2}});
        Check.boxes(packed("Fh13h10h10v05l009l105l205", 0), "the keenest one owes 3", new int[][] {{0}, {3}, {2}});
        HarvestBoxes x = packed("Fh10h10h10v05l009l100l200s0", 0);
        Check.same("the only one who likes it skips", x.vegetable(0, 2), 1);
    }

    private static void nobody() {
        HarvestBoxes x = packed("Fh10h23v12v30s0", 0);
        Check.same("composted", x.vegetable(0, 2), 12);
        Check.same("composted", x.vegetable(1, 2), 30);
        Check.same("in no box", x.about(3), 0);
        Check.same("the week counts", x.about(2), 1);
        Check.same("the harvest is gone", x.vegetable(0, 0), 0);
        Check.same("the credit of one that skips", x.house(0, 2), 1);
        Check.same("no credit for one that owes", x.house(1, 2), 0);
        HarvestBoxes full = packed("Fh10v12", 0);
        full.skip(0, true);
        full.pack();
        Check.same("the box of the week before is empty", full.box(0, 0), 0);
        Check.same("and eaten", full.about(4), 12);
        HarvestBoxes empty = packed("Fv40", 0);
        Check.same("without houses", empty.vegetable(0, 2), 40);
        Check.same("without anything", packed("F", 0).about(2), 1);
    }

    private static void swaps() {
        HarvestBoxes x = packed("Fh10h10v06v06l009l011l101l119", 3);
        Check.boxes(x, "until nobody gains", new int[][] {{6, 0}, {0, 6}});
        Check.same("happiness", x.house(0, 5), 54);
        Check.boxes(packed("Fh10h10v06v06l001l019l109l111", 3), "the other way", new int[][] {{0, 6}, {6, 0}});
        Check.boxes(packed("Fh10h10v06v06l009l011l105l115", 0), "one gains nothing", new int[][] {{3, 3}, {3, 3}});
        Check.boxes(packed("Fh10h10v06v06l009l011l109l111", 0), "both want the same", new int[][] {{3, 3}, {3, 3}});
        // House 1 has no part in this week, so nobody swaps with it.
        Check.boxes(packed("Fh10h10v06v06l009l011l101l119s1", 0), "one skips", new int[][] {{6, 6}, {0, 0}});
        // 40 kilos of each of five vegetables: 20 of each for both houses, so 20 and 20 are swapped, v2 for nothing.
        HarvestBoxes much = packed("Fh10h10v40v40v40v40v40l009l018l031l040l100l111l138l149", 40);
        Check.boxes(much, "much", new int[][] {{40, 40, 20, 0, 0}, {0, 0, 20, 40, 40}});
    }

    private static void swapsInOrder() {
        // Each of three houses has a kilo of each. (0, 1) gains 2 by vegetable 1 for 0, (0, 2) gains 8 by it:
        // (0, 2) is first, and then house 0 has no vegetable 1 for house 1.
        HarvestBoxes x = packed("Fh10h10h10v03v03l006l015l105l116l201l218", 1);
        Check.boxes(x, "the greatest gain first", new int[][] {{2, 0}, {1, 1}, {0, 2}});
        HarvestBoxes y = packed("Fh10h10h10v03v03l006l015l105l116l205l216", 1);
        Check.boxes(y, "the lowest b of several", new int[][] {{2, 0}, {0, 2}, {1, 1}});
        HarvestBoxes z = packed("Fh10h10h10v03v03l005l016l106l115l205l216", 1);
        Check.boxes(z, "the lowest a of several", new int[][] {{0, 2}, {2, 0}, {1, 1}});
    }

    private static void crates() {
        HarvestBoxes x = Check.farm("Fh10h12h13h19h12s4");
        x.pack();
        int[] owed = {1, 3, 3, 9, 2};
        for (int h = 0; h < owed.length; h++) {
            Check.same("crates of house " + h, x.house(h, 1), owed[h]);
        }
        x.pack();
        int[] then = {2, 3, 3, 9, 3};
        for (int h = 0; h < then.length; h++) {
            Check.same("crates of house " + h + " then", x.house(h, 1), then[h]);
        }
        Check.same("who gets a box", x.about(9), 1);
    }

    private static void credits() {
        HarvestBoxes x = Check.farm("Fh40h10h14v00s0s2");
        x.pack();
        creditsAre(x, "one week", 4, 0, 1);
        x.skip(0, true);
        x.pack();
        creditsAre(x, "two weeks", 8, 0, 1);
        x.skip(0, true);
        x.pack();
        creditsAre(x, "at most 9", 9, 0, 1);
        x.returnCrates(1, 3);
        x.setHarvest(0, 30);
        // Parts 5 and 1: 25 and 5.
        x.pack();
        Check.boxes(x, "a credit is 1 more", new int[][] {{25}, {5}, {0}});
        creditsAre(x, "a box takes 1 of it", 8, 0, 1);
        x.skip(0, true);
        x.returnCrates(2, 2);
        x.setHarvest(0, 30);
        // Parts 1 and 2: house 2 has a credit of 1.
        x.pack();
        Check.boxes(x, "the last credit", new int[][] {{0}, {10}, {20}});
        creditsAre(x, "used up", 9, 0, 0);
    }

    private static void creditsAre(HarvestBoxes x, String when, int... due) {
        for (int h = 0; h < due.length; h++) {
            Check.same(when + ": credit of house " + h, x.house(h, 2), due[h]);
        }
    }

    private static void whatEndsWithAWeek() {
        HarvestBoxes x = packed("Fh10h10v07v09s1l003", 0);
        Check.same("nobody skips", x.house(1, 3), 0);
        Check.same("no harvest", x.vegetable(0, 0) + x.vegetable(1, 0), 0);
        Check.same("likings stay", x.liking(0, 0), 3);
        Check.same("the next week", x.pack(), 0);
        Check.same("weeks", x.about(2), 2);
        Check.same("the boxes are empty", x.about(3), 0);
    }

    private static void accounts() {
        HarvestBoxes x = packed("Fh10h20v11v08l000l100", 0);
        // 11 of vegetable 0: 3 and 7, and one is composted.
        Check.same("composted", x.about(6), 1);
        x.give(1, 0, 5);
        x.setHarvest(1, 20);
        x.pack();
        Check.same("eaten", x.about(4), 13);
        Check.same("given away", x.about(5), 5);
        Check.same("in boxes", x.about(3), 20);
        x.pack();
        Check.same("eaten", x.about(4), 33);
        Check.same("nothing is lost", x.about(3) + x.about(4) + x.about(5) + x.about(6), 39);
    }
}
