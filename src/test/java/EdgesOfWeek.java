/** The edges of a week and of promise 17. Each number is worked out by hand. */
final class EdgesOfWeek {
    private static final int NONE = HarvestBoxes.NONE;
    /** Six houses among which five kilos are all glut, and none of them likes it before it is told so. */
    private static final String SIX = "Fh10h10h10h10h10h10v05l000l100l200l300l400l500";

    private EdgesOfWeek() {
    }

    static void all() {
        Doc.in("Terms");
        Doc.plain("A WEEK");
        Doc.edge("When a week is packed, the boxes of the week before are empty first (what was in them was eaten).",
                EdgesOfWeek::emptyFirst);
        Doc.edge("A house gets a box if it does not skip this week and owes fewer than 3 crates.", EdgesOfWeek::whoGetsABox);
        Doc.edge("Its part is its size, and 1 more if its credit is above 0.", EdgesOfWeek::parts);
        Doc.edge("If no house gets a box, all that is harvested is composted (and the week goes on as told below, with boxes "
                + "for nobody).", EdgesOfWeek::boxesForNobody);
        Doc.edge("Otherwise, for each vegetable, ascending: - each house that gets a box gets (the harvest * its part / the sum "
                + "of all parts), rounded down, kilos of it;", EdgesOfWeek::shares);
        gluts();
        swaps();
        Doc.edge("Then each house that gets a box owes 1 crate more (at most 9),", EdgesOfWeek::oneCrateMore);
        Doc.edge("and its credit becomes smaller by 1 if it is above 0.", EdgesOfWeek::creditSmaller);
        Doc.edge("The credit of each house that skips this week, whatever it owes, becomes greater by its size (at most 9).",
                EdgesOfWeek::creditGreater);
        Doc.edge("No house skips the next week then,", EdgesOfWeek::nobodySkipsThen);
        Doc.edge("all harvests become 0,", EdgesOfWeek::noHarvestsThen);
        Doc.edge("and the number of weeks grows by 1.", EdgesOfWeek::oneWeekMore);
        Doc.edge("A house may give kilos of its box away.", EdgesOfWeek::anyHouseMayGive);
        Doc.edge("What is harvested is all in boxes, eaten, given away or composted.", EdgesOfWeek::nothingIsLost);
        Doc.in("Promise 17");
        Doc.edge("`int pack()`: Packs a week.", EdgesOfWeek::packsAnyFarm);
        Doc.edge("Returns the swaps that are made.", EdgesOfWeek::answeredSwaps);
    }

    private static void gluts() {
        Doc.edge("what is left over is the glut: its kilos are given out one after the other,", EdgesOfWeek::leftOver);
        Doc.edge("each to the house, of those that get a box", EdgesOfWeek::glutWithBox);
        Doc.edge("and whose liking for it is above 0,", EdgesOfWeek::glutLiked);
        Doc.edge("for which (the liking) - 2 * (the kilos of this glut that it got so far), also below 0, is greatest,",
                EdgesOfWeek::glutGreatest);
        Doc.edge("among several to the lowest one;", EdgesOfWeek::glutLowest);
        Doc.edge("if there is no such house, they are composted.", EdgesOfWeek::glutComposted);
    }

    private static void swaps() {
        Doc.edge("Then houses swap. A swap is made by two houses a and b,", EdgesOfWeek::swapsOfGluts);
        Doc.edge("with a < b,", EdgesOfWeek::lowerHouseFirst);
        Doc.edge("and two different vegetables v and w:", EdgesOfWeek::differentVegetables);
        Doc.edge("a gives b a kilo of v, and b gives a a kilo of w;", EdgesOfWeek::oneKiloEach);
        Doc.edge("both have these in their boxes,", EdgesOfWeek::bothHaveThem);
        Doc.edge("a likes w more than v, and b likes v more than w.", EdgesOfWeek::bothLikeMore);
        Doc.edge("Its gain is how much more both like what they get, together.", EdgesOfWeek::gains);
        Doc.edge("Again and again the swap with the greatest gain is made,", EdgesOfWeek::greatestGain);
        Doc.edge("among several the one with the lowest a, then b, then v, then w,", EdgesOfWeek::lowestSwap);
        Doc.edge("until there is none.", EdgesOfWeek::untilThereIsNone);
    }

    private static HarvestBoxes packed(String text) {
        HarvestBoxes x = Check.farm(text);
        x.pack();
        return x;
    }

    private static void gets(String text, int[]... due) {
        Check.boxes(packed(text), text, due);
    }

    private static int[] row(int... kilos) {
        return kilos;
    }

    private static void emptyFirst() {
        HarvestBoxes x = packed("Fh10h10v05v00l009");
        Check.same("nothing is eaten in the first week", x.about(4), 0);
        x.setHarvest(1, 4);
        x.pack();
        Check.boxes(x, "of the new week alone", new int[][] {{0, 2}, {0, 2}});
        Check.same("eaten", x.about(4), 5);
        x.give(0, 1, 2);
        x.skip(0, true);
        x.skip(1, true);
        x.pack();
        Check.same("what was given away is not eaten", x.about(4), 7);
        Check.same("those that skip have empty boxes too", x.about(3), 0);
        x.pack();
        Check.same("of empty boxes nothing is eaten", x.about(4), 7);
        HarvestBoxes full = packed("Fh10h10h10h10h10h10v40v40v40v40v40");
        for (int h = 0; h < 6; h++) {
            full.skip(h, true);
        }
        full.pack();
        Check.same("all thirty are empty", full.about(3), 0);
        Check.same("all of them were eaten", full.about(4), 200);
    }

    private static void whoGetsABox() {
        HarvestBoxes x = packed("Fh10h11h12h13h14h19v06");
        Check.boxes(x, "up to two crates", new int[][] {{2}, {2}, {2}, {0}, {0}, {0}});
        x.setHarvest(0, 6);
        x.pack();
        Check.boxes(x, "a week later", new int[][] {{3}, {3}, {0}, {0}, {0}, {0}});
        x.setHarvest(0, 6);
        x.pack();
        Check.boxes(x, "two weeks later", new int[][] {{6}, {0}, {0}, {0}, {0}, {0}});
        x.setHarvest(0, 6);
        x.pack();
        Check.same("three weeks later", x.about(3), 0);
        gets("Fh10h10h12h12v06s0s2", row(0), row(3), row(0), row(3));
        gets("Fh10h13v06s0s1", row(0), row(0));
    }

    private static void parts() {
        gets("Fh10h20h30h40v20", row(2), row(4), row(6), row(8));
        HarvestBoxes x = packed("Fh10h10v00s0");
        Check.same("a credit of 1", x.house(0, 2), 1);
        x.setHarvest(0, 30);
        x.pack();
        Check.boxes(x, "2 and 1 parts", new int[][] {{20}, {10}});
        x.setHarvest(0, 30);
        x.pack();
        Check.boxes(x, "the credit is 0 again: 1 and 1 parts", new int[][] {{15}, {15}});
        HarvestBoxes y = packed("Fh40h10v00s0");
        for (int week = 0; week < 2; week++) {
            y.skip(0, true);
            y.returnCrates(1, 1);
            y.pack();
        }
        Check.same("a credit of 9", y.house(0, 2), 9);
        y.setHarvest(0, 36);
        y.pack();
        Check.boxes(y, "5 and 1 parts", new int[][] {{30}, {6}});
    }

    private static void boxesForNobody() {
        HarvestBoxes none = packed("Fv40v00v01");
        Check.same("no house: composted", none.about(6), 41);
        Check.same("the greatest harvest", none.vegetable(0, 2), 40);
        Check.same("no harvest", none.vegetable(1, 2), 0);
        Check.same("the week counts", none.about(2), 1);
        HarvestBoxes x = packed("Fh10h10v06v06l009l011l101l119");
        Check.same("swaps before", x.about(8), 3);
        x.setHarvest(0, 7);
        x.skip(0, true);
        x.skip(1, true);
        Check.same("no swaps", x.pack(), 0);
        Check.same("no swaps of the last week", x.about(8), 0);
        Check.same("all is composted", x.vegetable(0, 2), 7);
        Check.same("the boxes before are eaten", x.about(4), 12);
        Check.same("nothing in the boxes", x.about(3), 0);
        Check.same("credits grow", x.house(0, 2) + x.house(1, 2), 2);
        Check.same("no crates more", x.about(7), 2);
        Check.same("nobody skips then", x.about(9), 2);
        Check.same("no harvest then", x.vegetable(0, 0), 0);
        HarvestBoxes owing = packed("Fh13h19h13v09s2");
        Check.same("three crates each: composted", owing.about(6), 9);
        Check.same("no crates more", owing.about(7), 15);
    }

    private static void shares() {
        // 7 parts: 40 * 3 / 7 = 17.1, 40 * 4 / 7 = 22.9; 35 is 15 and 20; 34 * 3 / 7 = 14.6, 34 * 4 / 7 = 19.4.
        String two = "Fh30h40v40v35v34v01v00l000l100l010l110l020l120l030l130";
        gets(two, row(17, 15, 14, 0, 0), row(22, 20, 19, 0, 0));
        HarvestBoxes x = packed(two);
        Check.same("what is rounded down is left over", x.vegetable(0, 2), 1);
        Check.same("nothing is rounded", x.vegetable(1, 2), 0);
        Check.same("left over of 34", x.vegetable(2, 2), 1);
        Check.same("one kilo for 7 parts", x.vegetable(3, 2), 1);
        Check.same("no kilo", x.vegetable(4, 2), 0);
        gets("Fh10v40l000", row(40));
        gets("Fh40h19v40l000", row(40), row(0));
        // The most parts: six houses with a size of 4 and a credit, 40 * 5 / 30 = 6.7.
        HarvestBoxes most = packed("Fh40h40h40h40h40h40v00s0s1s2s3s4s5l000l100l200l300l400l500");
        most.setHarvest(0, 40);
        most.pack();
        Check.boxes(most, "30 parts", new int[][] {{6}, {6}, {6}, {6}, {6}, {6}});
        Check.same("of 30 parts", most.vegetable(0, 2), 4);
    }

    private static void leftOver() {
        gets(SIX + "l009", row(5), row(0), row(0), row(0), row(0), row(0));
        gets("Fh10h10v07l009l100", row(4), row(3));
        gets("Fh10h10v06l009l100", row(3), row(3));
        gets("Fh10h10h10v05l009l108l200", row(2), row(2), row(1));
    }

    private static void glutWithBox() {
        gets("Fh10h10h10v03l009l101l200s0", row(0), row(2), row(1));
        gets("Fh13h10h10v03l009l101l200", row(0), row(2), row(1));
        gets("Fh12h10h10v04l009l101l200", row(2), row(1), row(1));
    }

    private static void glutLiked() {
        gets(SIX + "l101", row(0), row(5), row(0), row(0), row(0), row(0));
        gets(SIX + "l501", row(0), row(0), row(0), row(0), row(0), row(5));
    }

    private static void glutGreatest() {
        // 9, 7 and 5 for house 0 (the lower one of two with 5), 5 for house 1, 3 for house 0 (again the lower one).
        gets(SIX + "l009l105", row(4), row(1), row(0), row(0), row(0), row(0));
        // 2 for house 2, 1 for house 3, 0 for house 2, -1 for house 3, -2 for house 2.
        gets(SIX + "l202l301", row(0), row(0), row(3), row(2), row(0), row(0));
        gets(SIX + "l201l302", row(0), row(0), row(2), row(3), row(0), row(0));
        // The kilos of the share do not count: house 0 has 2 of them and house 1 has 1.
        gets("Fh20h10v04", row(3), row(1));
        // Nor do those of another glut.
        gets("Fh10h10v01v01v01", row(1, 1, 1), row(0, 0, 0));
    }

    private static void glutLowest() {
        gets("Fh10h10h10h10h10h10v01", row(1), row(0), row(0), row(0), row(0), row(0));
        gets("Fh10h10h10h10h10h10v05", row(1), row(1), row(1), row(1), row(1), row(0));
        gets("Fh10h10h10h10h10h10v04s0", row(0), row(1), row(1), row(1), row(1), row(0));
        // 7 for house 1, 3 and 5, and then 5 for house 1 and house 3.
        gets(SIX + "l107l307l507", row(0), row(2), row(0), row(2), row(0), row(1));
        // Below 0: -1 for house 4 and 5.
        gets(SIX + "l401l501", row(0), row(0), row(0), row(0), row(3), row(2));
    }

    private static void glutComposted() {
        HarvestBoxes x = packed(SIX);
        Check.same("nobody likes it", x.vegetable(0, 2), 5);
        Check.same("nobody has it", x.about(3), 0);
        HarvestBoxes shared = packed("Fh10h10v07v07l000l100");
        Check.same("the glut alone", shared.vegetable(0, 2), 1);
        Check.same("the shares are in the boxes", shared.vegetable(0, 1), 6);
        Check.same("another vegetable is liked", shared.vegetable(1, 2), 0);
        HarvestBoxes skipping = packed("Fh10h10h10v05l009l100l200s0");
        Check.same("the only one who likes it skips", skipping.vegetable(0, 2), 1);
        HarvestBoxes owing = packed("Fh13h10h10v05l009l100l200");
        Check.same("the only one who likes it owes 3", owing.vegetable(0, 2), 1);
    }

    /** So many houses with a kilo of each vegetable in each box. */
    private static HarvestBoxes even(int houses, int vegetables) {
        HarvestBoxes x = new HarvestBoxes();
        for (int h = 0; h < houses; h++) {
            x.addHouse(1);
        }
        for (int v = 0; v < vegetables; v++) {
            x.addVegetable(houses);
        }
        x.pack();
        return x;
    }

    private static HarvestBoxes likes(HarvestBoxes x, int h, int... likings) {
        for (int v = 0; v < likings.length; v++) {
            x.setLiking(h, v, likings[v]);
        }
        return x;
    }

    /** Of what all gluts gave, too: house 0 gets the kilo of vegetable 0, house 1 the third one of vegetable 1. */
    private static void swapsOfGluts() {
        String others = "l200l210l300l310l400l410l500l510";
        String all = "Fh10h10h10h10h10h10v01v03l005l016l104l113" + others;
        gets(all, row(0, 3), row(1, 0), row(0, 0), row(0, 0), row(0, 0), row(0, 0));
        HarvestBoxes x = Check.farm(all);
        Check.same("one swap", x.pack(), 1);
        // If house 1 does not want vegetable 0 more, each house keeps its kilos.
        gets("Fh10h10h10h10h10h10v01v03l005l016l103l113" + others, row(1, 2), row(0, 1), row(0, 0), row(0, 0), row(0, 0),
                row(0, 0));
        // Those without a box have nothing to swap, though house 2 wants all of house 0's vegetable 0.
        gets("Fh10h10h10v02v02l004l015l105l115l209l210s2", row(1, 1), row(1, 1), row(0, 0));
    }

    private static void anyHouseMayGive() {
        HarvestBoxes x = packed("Fh10h12h10v06v09s2");
        x.skip(0, true);
        Check.same("one that skips the next week", x.give(0, 0, 3), 0);
        Check.same("one that owes three crates", x.give(1, 1, 2), 2);
        Check.same("what is left of it", x.give(1, 1, 2), 0);
        Check.fails("one with an empty box", IllegalStateException.class, () -> x.give(2, 0, 1));
        Check.same("given away", x.about(5), 7);
        x.setHarvest(0, 6);
        x.skip(0, false);
        x.pack();
        // House 2 has a credit, so that house 0 has one of three parts.
        Check.same("it gets no less in the next week", x.box(0, 0), 2);
        Check.same("what was given away is not eaten", x.about(4), 15 - 7);
        Check.same("it stays given away", x.about(5), 7);
    }

    private static void lowerHouseFirst() {
        HarvestBoxes x = likes(likes(even(2, 2), 0, 0, 9), 1, 9, 0);
        Check.same("house 0 wants vegetable 1", x.firstSwap(), 101);
        likes(likes(x, 0, 9, 0), 1, 0, 9);
        Check.same("house 0 wants vegetable 0", x.firstSwap(), 110);
        HarvestBoxes last = likes(likes(even(6, 2), 4, 9, 0), 5, 0, 9);
        Check.same("the last two houses", last.firstSwap(), 4510);
        HarvestBoxes alone = likes(even(1, 2), 0, 0, 9);
        Check.same("one house swaps with nobody", alone.firstSwap(), NONE);
    }

    private static void differentVegetables() {
        HarvestBoxes x = likes(likes(even(2, 1), 0, 0), 1, 9);
        Check.same("one vegetable is not swapped for itself", x.firstSwap(), NONE);
        HarvestBoxes last = likes(likes(even(2, 5), 0, 5, 5, 5, 6, 5), 1, 5, 5, 5, 5, 6);
        Check.same("the last two vegetables", last.firstSwap(), 143);
    }

    private static void oneKiloEach() {
        gets("Fh10h10v02v02l009l010l100l119", row(2, 0), row(0, 2));
        gets("Fh10h10h10v03v03l005l016l106l115l205l215", row(0, 2), row(2, 0), row(1, 1));
        // Four kilos of vegetable 0 and two of 1: two swaps, and house 0 is left with two of vegetable 0.
        gets("Fh10h10v08v04l000l019l109l110", row(2, 4), row(6, 0));
    }

    private static void bothHaveThem() {
        HarvestBoxes x = likes(likes(even(2, 2), 0, 0, 9), 1, 9, 0);
        Check.same("one kilo each is enough", x.firstSwap(), 101);
        x.give(0, 0, 1);
        Check.same("house 0 has none to give", x.firstSwap(), NONE);
        x.undo();
        x.give(1, 1, 1);
        Check.same("house 1 has none to give", x.firstSwap(), NONE);
        x.undo();
        x.give(0, 1, 1);
        x.give(1, 0, 1);
        Check.same("what they get they need not have", x.firstSwap(), 101);
    }

    private static void bothLikeMore() {
        HarvestBoxes x = even(2, 2);
        swapsOf(x, NONE, 5, 5, 5, 5);
        swapsOf(x, 101, 4, 5, 5, 4);
        swapsOf(x, NONE, 5, 5, 5, 4);
        swapsOf(x, NONE, 4, 5, 5, 5);
        swapsOf(x, NONE, 4, 5, 4, 5);
        swapsOf(x, NONE, 0, 9, 0, 9);
        swapsOf(x, NONE, 0, 9, 9, 9);
        swapsOf(x, NONE, 9, 9, 9, 0);
        swapsOf(x, 101, 0, 1, 9, 8);
        swapsOf(x, 101, 8, 9, 1, 0);
        swapsOf(x, 110, 1, 0, 8, 9);
    }

    private static void swapsOf(HarvestBoxes x, int due, int a0, int a1, int b0, int b1) {
        likes(likes(x, 0, a0, a1), 1, b0, b1);
        Check.same("firstSwap with " + a0 + " " + a1 + " and " + b0 + " " + b1, x.firstSwap(), due);
    }

    private static void gains() {
        // 1 + 5 for vegetables 0 and 1 is more than 3 + 2 for 2 and 3, though 1 is the least and 3 * 2 the greater product.
        HarvestBoxes x = likes(likes(even(2, 4), 0, 1, 2, 6, 9), 1, 5, 0, 8, 6);
        Check.same("6 before 5", x.firstSwap(), 101);
        // 4 + 3 for vegetables 2 and 3 is more than 1 + 5, though 5 is the greatest.
        likes(likes(x, 0, 1, 2, 5, 9), 1, 5, 0, 9, 6);
        Check.same("7 before 6", x.firstSwap(), 123);
        // 1 + 5 and 4 + 2 are alike.
        likes(likes(x, 0, 1, 2, 5, 9), 1, 5, 0, 8, 6);
        Check.same("6 and 6", x.firstSwap(), 101);
        // The greatest gain of all: 9 + 9.
        likes(likes(x, 0, 5, 5, 0, 9), 1, 5, 5, 9, 0);
        Check.same("18", x.firstSwap(), 123);
    }

    private static void greatestGain() {
        // Both want house 0's kilo of vegetable 0 for one of vegetable 1: house 2 gains 9, house 1 but 1.
        gets("Fh10h10h10v03v03l005l016l106l115l209l210", row(0, 2), row(1, 1), row(2, 0));
        // A gain of 3 before the lower one of 2.
        gets("Fh10h10h10v03v03l005l016l106l115l207l215", row(0, 2), row(1, 1), row(2, 0));
        Check.same("then no other is left", Check.farm("Fh10h10h10v03v03l005l016l106l115l207l215").pack(), 1);
    }

    private static void lowestSwap() {
        gets("Fh10h10h10v03v03l006l015l106l115l205l216", row(2, 0), row(1, 1), row(0, 2));
        gets("Fh10h10h10v03v03l006l015l105l116l205l216", row(2, 0), row(0, 2), row(1, 1));
        // House 1 has one kilo of vegetable 2: house 0 gives vegetable 0 for it, not vegetable 1.
        gets("Fh10h10v02v02v02l005l015l026l106l116l125", row(0, 1, 2), row(2, 1, 0));
        // House 0 has one kilo of vegetable 0: it gets vegetable 1 for it, not vegetable 2.
        gets("Fh10h10v02v02v02l005l016l026l106l115l125", row(0, 2, 1), row(2, 0, 1));
        HarvestBoxes x = likes(likes(even(2, 4), 0, 5, 4, 5, 9), 1, 6, 5, 1, 5);
        Check.same("v before w: 0 for 3 before 1 for 2", x.firstSwap(), 103);
        likes(likes(x, 0, 5, 5, 6, 6), 1, 6, 6, 5, 5);
        Check.same("the lowest w of the lowest v", x.firstSwap(), 102);
        HarvestBoxes y = likes(likes(likes(likes(even(4, 2), 0, 5, 6), 1, 5, 6), 2, 6, 5), 3, 6, 5);
        Check.same("the lowest b of the lowest a", y.firstSwap(), 201);
        likes(likes(likes(y, 0, 5, 5), 2, 5, 5), 3, 6, 5);
        Check.same("the lowest a that is left", y.firstSwap(), 1301);
    }

    private static void untilThereIsNone() {
        HarvestBoxes x = Check.farm("Fh10h10v40v40v40v40v40l009l018l031l040l100l111l138l149");
        Check.same("20 and 20 kilos", x.pack(), 40);
        Check.same("then there is none", x.firstSwap(), NONE);
        HarvestBoxes y = Check.farm("Fh10h10v02v02l009l011l101l119");
        Check.same("one kilo", y.pack(), 1);
        Check.same("then there is none", y.firstSwap(), NONE);
        theMostSwaps();
        HarvestBoxes full = Check.farm(Twins.FULL_TEXT);
        Check.holds("many in a full farm", full.pack() > 9);
        Check.same("then there is none", full.firstSwap(), NONE);
    }

    /** The most that were found by a search over likings; the number is the one that PlainFarm answers. */
    private static void theMostSwaps() {
        HarvestBoxes x = Check.farm("Fh30h40h10h40h40h40v40v40v40v40v40");
        int[][] likings = {{4, 7, 8, 6, 9}, {3, 1, 0, 5, 4}, {5, 2, 3, 7, 8}, {6, 9, 6, 0, 1}, {0, 0, 9, 7, 8}, {9, 1, 6, 0, 8}};
        for (int h = 0; h < likings.length; h++) {
            likes(x, h, likings[h]);
        }
        Check.same("the most swaps", x.pack(), 138);
        Check.same("then there is none", x.firstSwap(), NONE);
    }

    private static void oneCrateMore() {
        HarvestBoxes x = packed("Fh10h11h12h13h18h19v05");
        int[] due = {1, 2, 3, 3, 8, 9};
        for (int h = 0; h < due.length; h++) {
            Check.same("crates of house " + h, x.house(h, 1), due[h]);
        }
        HarvestBoxes skipping = packed("Fh10h12h19v05s0s1s2");
        Check.same("those that skip owe no more", skipping.about(7), 11);
        Check.same("also for an empty box", packed("Fh10").house(0, 1), 1);
    }

    private static void creditSmaller() {
        HarvestBoxes x = packed("Fh10h20h13v00s0s1");
        creditsAre(x, "both skipped", 1, 2, 0);
        x.pack();
        creditsAre(x, "one box each", 0, 1, 0);
        x.pack();
        creditsAre(x, "two boxes each", 0, 0, 0);
        x.pack();
        creditsAre(x, "three boxes each", 0, 0, 0);
        HarvestBoxes owing = packed("Fh43v00s0");
        owing.pack();
        creditsAre(owing, "no box, no smaller credit", 4);
    }

    private static void creditsAre(HarvestBoxes x, String when, int... due) {
        for (int h = 0; h < due.length; h++) {
            Check.same(when + ": credit of house " + h, x.house(h, 2), due[h]);
        }
    }

    private static void creditGreater() {
        HarvestBoxes x = Check.farm("Fh10h22h33h49h10h13");
        int[][] due = {{1, 2, 3, 4, 0, 0}, {2, 4, 6, 8, 0, 0}, {3, 6, 9, 9, 0, 0}, {4, 8, 9, 9, 0, 0}, {5, 9, 9, 9, 0, 0}};
        for (int week = 0; week < due.length; week++) {
            for (int h = 0; h < 4; h++) {
                x.skip(h, true);
            }
            x.pack();
            creditsAre(x, "week " + week, due[week]);
        }
    }

    private static void nobodySkipsThen() {
        HarvestBoxes x = packed("Fh10h13h19s0s1s2");
        for (int h = 0; h < 3; h++) {
            Check.same("house " + h + " skips", x.house(h, 3), 0);
        }
        Check.same("who would get a box", x.about(9), 1);
    }

    private static void noHarvestsThen() {
        HarvestBoxes x = packed("Fh10v00v01v39v40v17");
        HarvestBoxes nobody = packed("Fv00v01v39v40v17");
        for (int v = 0; v < 5; v++) {
            Check.same("harvest of vegetable " + v, x.vegetable(v, 0), 0);
            Check.same("harvest of vegetable " + v + " without houses", nobody.vegetable(v, 0), 0);
        }
    }

    private static void oneWeekMore() {
        HarvestBoxes x = Check.farm("Fh10");
        HarvestBoxes nobody = new HarvestBoxes();
        for (int week = 1; week <= 20; week++) {
            x.pack();
            nobody.pack();
            Check.same("weeks", x.about(2), week);
            Check.same("weeks with nothing", nobody.about(2), week);
        }
    }

    private static void nothingIsLost() {
        HarvestBoxes x = Check.farm("Fh10h20h30h40h11h22v40v40v40v40v40l000l100l200l300l400l500s1s4");
        int harvested = 200;
        x.pack();
        Check.same("the most that can be harvested", kilosOf(x), harvested);
        for (int week = 0; week < 9; week++) {
            for (int v = 0; v < 5; v++) {
                x.setHarvest(v, (7 * week + 13 * v) % 41);
                harvested += (7 * week + 13 * v) % 41;
            }
            int keeping = week % 6;
            if (x.box(keeping, 1) > 0) {
                x.give(keeping, 1, 1);
            }
            x.pack();
            Check.same("behind week " + week, kilosOf(x), harvested);
        }
        Check.holds("each way was gone", x.about(4) > 0 && x.about(5) > 0 && x.about(6) > 0);
    }

    private static int kilosOf(HarvestBoxes x) {
        return x.about(3) + x.about(4) + x.about(5) + x.about(6);
    }

    private static void packsAnyFarm() {
        HarvestBoxes some = packed("Fh10h22v05v04l019l103");
        Check.changes(some, "pack without a harvest", () -> some.pack(), "about(2)=2", "about(3)=0", "about(4)=9", "about(7)=5",
                "house(0, 1)=2", "house(0, 4)=0", "house(0, 5)=0", "house(1, 4)=0", "house(1, 5)=0", "vegetable(0, 1)=0",
                "vegetable(1, 1)=0", "box(0, 0)=0", "box(0, 1)=0", "box(1, 0)=0", "box(1, 1)=0");
        HarvestBoxes nothing = new HarvestBoxes();
        Check.same("nothing", nothing.pack(), 0);
        Check.same("a week of nothing", nothing.about(2), 1);
        Check.same("houses alone", Check.farm("Fh10h10").pack(), 0);
        Check.same("vegetables alone", Check.farm("Fv40v40").pack(), 0);
        HarvestBoxes full = Check.farm(Twins.FULL_TEXT);
        full.pack();
        Check.same("all in boxes or composted", full.about(3) + full.about(6), 40 + 39 + 17 + 8 + 1);
    }

    private static void answeredSwaps() {
        Check.same("none", Check.farm("Fh10h10v02v02").pack(), 0);
        Check.same("one", Check.farm("Fh10h10v02v02l009l011l101l119").pack(), 1);
        HarvestBoxes x = Check.farm("Fh10h10v40v40l009l011l101l119");
        Check.same("twenty", x.pack(), 20);
        Check.same("as about(8) tells", x.about(8), 20);
        x.setHarvest(0, 2);
        x.setHarvest(1, 2);
        Check.same("those of this week alone", x.pack(), 1);
    }
}
