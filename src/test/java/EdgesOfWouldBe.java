/** The edges of promises 21 to 25: what would be. */
final class EdgesOfWouldBe {
    private static final Class<IndexOutOfBoundsException> NOT_THERE = IndexOutOfBoundsException.class;
    private static final int NONE = HarvestBoxes.NONE;
    private static final int MIN = Integer.MIN_VALUE;
    private static final int MAX = Integer.MAX_VALUE;

    private EdgesOfWouldBe() {
    }

    static void all() {
        Doc.in("Terms");
        Doc.edge("Ahead of the calls `wouldGet`, `wouldBe`, `bestSkip`, `bestMore`, `firstSwap` the interface says: ---- what "
                + "would be; these and all following methods up to the save slots change nothing.", EdgesOfWouldBe::changeNothing);
        Doc.in("Promise 21");
        Doc.edge("`int wouldGet(int h, int v) throws IndexOutOfBoundsException`: Tells what a house would get. - `h`: house - "
                + "`v`: vegetable", EdgesOfWouldBe::wouldGetInTheSecondWeek);
        Doc.edge("Returns the kilos of this vegetable that would be in its box behind pack().", EdgesOfWouldBe::wouldGet);
        Doc.edge("Throws `IndexOutOfBoundsException` if there is no such house or vegetable", EdgesOfWouldBe::wouldGetOfNone);
        Doc.in("Promise 22");
        Doc.edge("`int wouldBe(int h) throws IndexOutOfBoundsException`: Tells how happy a house would be. - `h`: house",
                EdgesOfWouldBe::wouldBeInTheSecondWeek);
        Doc.edge("Returns its happiness behind pack().", EdgesOfWouldBe::wouldBe);
        Doc.edge("Throws `IndexOutOfBoundsException` if there is no such house", EdgesOfWouldBe::wouldBeOfNone);
        Doc.in("Promise 23");
        Doc.edge("`int bestSkip()`: Tells who should skip.", EdgesOfWouldBe::bestSkipOfTheSecondWeek);
        Doc.edge("Returns the house for which the happiness of all other houses together, behind pack(), would be greatest if it "
                + "skipped the next week,", EdgesOfWouldBe::greatestOfOthers);
        Doc.edge("of those that would get a box;", EdgesOfWouldBe::skipOfThoseWithBox);
        Doc.edge("among several the lowest one;", EdgesOfWouldBe::lowestSkip);
        Doc.edge("NONE if no house would get a box.", EdgesOfWouldBe::noSkip);
        Doc.in("Promise 24");
        Doc.edge("`int bestMore()`: Tells what one kilo more would please.", EdgesOfWouldBe::bestMoreOfTheSecondWeek);
        Doc.edge("Returns the vegetable with a harvest below 40", EdgesOfWouldBe::below40);
        Doc.edge("of which one kilo more would make the happiness of all houses together, behind pack(), greatest,",
                EdgesOfWouldBe::greatestOfAll);
        Doc.edge("among several the lowest one;", EdgesOfWouldBe::lowestMore);
        Doc.edge("NONE if there is none.", EdgesOfWouldBe::noMore);
        Doc.in("Promise 25");
        Doc.edge("`int firstSwap()`: Finds a swap.", EdgesOfWouldBe::firstSwapOfTheFirstWeek);
        Doc.edge("Returns 1000 * a + 100 * b + 10 * v + w of the swap that would be made first with the boxes as they are now;",
                EdgesOfWouldBe::firstSwaps);
        Doc.edge("NONE if there is none.", EdgesOfWouldBe::noSwap);
    }

    private static void changeNothing() {
        Twins.keepAlways("bestSkip", x -> x.bestSkip());
        Twins.keepAlways("bestMore", x -> x.bestMore());
        Twins.keepAlways("firstSwap", x -> x.firstSwap());
        Twins.keep(Twins::some, "wouldGet", x -> x.wouldGet(1, 0));
        Twins.keep(Twins::some, "wouldBe", x -> x.wouldBe(0));
        Twins.keep(Twins::full, "wouldGet", x -> x.wouldGet(5, 4));
        Twins.keep(Twins::full, "wouldBe", x -> x.wouldBe(5));
        Twins.keepAlways("runScript of a week", x -> x.runScript(1, 4000));
        Twins.keepAlways("runScript that succeeds or fails", x -> x.runScript(4, 1010_2009_3010_4000L));
        Twins.keepAlways("runScript of what is given and returned", x -> x.runScript(4, 6001_5010_4000_6001L));
        Twins.keepAlways("runScript of nothing", x -> x.runScript(1, 0));
        Twins.keepAlways("simulate of a week", x -> x.simulate(MIN, 1));
        Twins.keepAlways("simulate of 30 weeks", x -> x.simulate(Long.MAX_VALUE, 30));
    }

    private static void wouldGetInTheSecondWeek() {
        HarvestBoxes x = EdgesOfAsking.beforeTheSecondWeek();
        int[][] due = {{12, 1}, {0, 0}, {18, 2}};
        for (int cell = 0; cell < 6; cell++) {
            Check.same("wouldGet of cell " + cell, x.wouldGet(cell / 2, cell % 2), due[cell / 2][cell % 2]);
        }
        Check.boxes(x, "that are there", new int[][] {{0, 0}, {8, 0}, {5, 4}});
    }

    private static void wouldBeInTheSecondWeek() {
        HarvestBoxes x = EdgesOfAsking.beforeTheSecondWeek();
        int[] due = {12, 0, 90};
        int[] present = {0, 40, 25};
        for (int h = 0; h < 3; h++) {
            Check.same("wouldBe(" + h + ")", x.wouldBe(h), due[h]);
            Check.same("it is not yet", x.house(h, 5), present[h]);
        }
    }

    /** Without house 0 the happiness of house 2 would be 150, without house 2 that of house 0 would be 30. */
    private static void bestSkipOfTheSecondWeek() {
        HarvestBoxes x = EdgesOfAsking.beforeTheSecondWeek();
        Check.same("bestSkip()", x.bestSkip(), 0);
        x.setLiking(0, 0, 6);
        Check.same("when house 0 likes it more", x.bestSkip(), 2);
    }

    /** 102 without it; a kilo more of vegetable 0 is glut that house 2 likes, one more of vegetable 1 is liked by nobody. */
    private static void bestMoreOfTheSecondWeek() {
        HarvestBoxes x = EdgesOfAsking.beforeTheSecondWeek();
        Check.same("bestMore()", x.bestMore(), 0);
        x.setLiking(0, 1, 9);
        Check.same("when house 0 likes the other one", x.bestMore(), 1);
    }

    private static void firstSwapOfTheFirstWeek() {
        HarvestBoxes x = EdgesOfAsking.beforeTheSecondWeek();
        Check.same("none", x.firstSwap(), NONE);
        // House 1 likes vegetable 1 more than vegetable 0 then, and house 2 the other way round.
        x.setLiking(1, 1, 6);
        Check.same("firstSwap()", x.firstSwap(), 1201);
    }

    private static void wouldGet() {
        HarvestBoxes x = Check.farm("Fh10h10h13v40v06v06l019l021l111l129");
        int[][] due = {{20, 6, 0}, {20, 0, 6}, {0, 0, 0}};
        for (int h = 0; h < 3; h++) {
            for (int v = 0; v < 3; v++) {
                Check.same("wouldGet(" + h + ", " + v + ")", x.wouldGet(h, v), due[h][v]);
            }
        }
        Check.same("nothing is in the boxes", x.about(3), 0);
        x.pack();
        Check.boxes(x, "behind pack", due);
        Check.same("without a harvest", x.wouldGet(0, 0), 0);
        Check.same("the most", Check.farm("Fh10v40").wouldGet(0, 0), 40);
        HarvestBoxes full = Check.farm(Twins.FULL_TEXT);
        HarvestBoxes packed = Check.farm(Twins.FULL_TEXT);
        packed.pack();
        for (int cell = 0; cell < 30; cell++) {
            Check.same("cell " + cell, full.wouldGet(cell / 5, cell % 5), packed.box(cell / 5, cell % 5));
        }
    }

    private static void wouldGetOfNone() {
        for (int far : new int[] {-1, 6, MIN, MAX}) {
            Twins.refuseAlways("wouldGet(" + far + ", 0)", NOT_THERE, x -> x.wouldGet(far, 0));
            Twins.refuseAlways("wouldGet(0, " + far + ")", NOT_THERE, x -> x.wouldGet(0, far));
        }
        Twins.refuse(Twins::nothing, "wouldGet(0, 0)", NOT_THERE, x -> x.wouldGet(0, 0));
        Twins.refuse(Twins::some, "wouldGet(3, 0)", NOT_THERE, x -> x.wouldGet(3, 0));
        Twins.refuse(Twins::some, "wouldGet(0, 2)", NOT_THERE, x -> x.wouldGet(0, 2));
        Twins.refuse(Twins::full, "wouldGet(0, 5)", NOT_THERE, x -> x.wouldGet(0, 5));
    }

    private static void wouldBe() {
        HarvestBoxes x = Check.farm("Fh10h13h10v40v40v40v40v40l009l019l029l039l049s2");
        Check.same("the most", x.wouldBe(0), 200 * 9);
        Check.same("of one that owes 3", x.wouldBe(1), 0);
        Check.same("of one that skips", x.wouldBe(2), 0);
        x.pack();
        Check.same("so it is", x.house(0, 5), 200 * 9);
        Check.same("behind a week without a harvest", x.wouldBe(0), 0);
        HarvestBoxes swapping = Check.farm("Fh10h10v06v06l009l011l101l119");
        Check.same("with the swaps", swapping.wouldBe(0), 54);
        Check.same("a house alone", Check.farm("Fh10").wouldBe(0), 0);
        HarvestBoxes later = Check.farm("Fh10v40");
        later.setHarvest(0, 7);
        Check.same("with the harvest as it is now", later.wouldBe(0), 35);
        Check.same("and again", later.wouldBe(0), 35);
    }

    private static void wouldBeOfNone() {
        for (int h : new int[] {-1, 6, MIN, MAX}) {
            Twins.refuseAlways("wouldBe(" + h + ")", NOT_THERE, x -> x.wouldBe(h));
        }
        Twins.refuse(Twins::nothing, "wouldBe(0)", NOT_THERE, x -> x.wouldBe(0));
        Twins.refuse(Twins::some, "wouldBe(3)", NOT_THERE, x -> x.wouldBe(3));
    }

    private static void bestSkip(String text, int due) {
        Check.same("bestSkip of " + text, Check.farm(text).bestSkip(), due);
    }

    private static void greatestOfOthers() {
        // If house 0 skips, house 1 has 2 * 1, and if house 1 skips, house 0 has 2 * 9.
        bestSkip("Fh10h10v02l009l101", 1);
        bestSkip("Fh10h10v02l001l109", 0);
        // Without house 0 the others have 45, without house 1 53, without house 2 52.
        bestSkip("Fh40h10h10v06l009l107l208", 1);
        // Without house 0 the others have 45, without house 1 36, without house 2 34: what house 0 would lose does not count.
        bestSkip("Fh40h10h10v06l005l107l208", 0);
        bestSkip("Fh10h10h10h10h10h10v30l001l101l201l301l401l500", 5);
        bestSkip("Fh10h10h10h10h10h10v30l000l101l201l301l401l501", 0);
        HarvestBoxes later = new HarvestBoxes();
        later.addHouse(1);
        Check.same("one house that came just now", later.bestSkip(), 0);
        later.addHouse(1);
        later.addVegetable(2);
        later.setLiking(0, 0, 9);
        Check.same("another one that came just now", later.bestSkip(), 1);
        skipAmongOthers();
        // The box of the week before, also of the house that would skip, is eaten behind pack().
        HarvestBoxes x = Check.farm("Fh10h10v40l009l100");
        x.skip(1, true);
        x.pack();
        x.setHarvest(0, 2);
        Check.same("the happy box of house 0 is eaten", x.bestSkip(), 1);
        // Nor does a box speak for its house: without house 0 the happiness is 18, without house 1 it is 2.
        x.setLiking(0, 0, 1);
        x.setLiking(1, 0, 9);
        Check.same("house 0 has 40 kilos", x.bestSkip(), 0);
    }

    /** A farm behind a week without a harvest, so that those who skipped have a credit. */
    private static HarvestBoxes withCredits(String text, int... harvests) {
        HarvestBoxes x = Check.farm(text);
        x.pack();
        for (int v = 0; v < harvests.length; v++) {
            x.setHarvest(v, harvests[v]);
        }
        return x;
    }

    /** The other houses are as they are: those that skip or owe three crates get nothing, those with a credit get more. */
    private static void skipAmongOthers() {
        // Without house 0 the others have 30, without house 1 38, without house 2, which has two parts, 42.
        Check.same("a credit", withCredits("Fh10h10h10v00l009s2", 6).bestSkip(), 2);
        // House 1 gets nothing: 0 without house 0, 5 without house 2.
        bestSkip("Fh10h10h40v01l200s1", 2);
        // House 1 gets nothing: 2 without house 0, 5 without house 2.
        bestSkip("Fh10h13h20v01l202", 2);
    }

    private static void skipOfThoseWithBox() {
        bestSkip("Fh10h10h10v06l001l101s0", 1);
        bestSkip("Fh13h10h10v06l001l101", 1);
        bestSkip("Fh12h10h10v06l001l101", 0);
        bestSkip("Fh10h10h10h10h10h10s0s1s2s3s4", 5);
        bestSkip("Fh19h13h10h10v01s2", 3);
    }

    private static void lowestSkip() {
        bestSkip("Fh10h10h10h10h10h10v30", 0);
        bestSkip("Fh10h10h10v06l101l201", 1);
        bestSkip("Fh10h10h10v00s0", 1);
        bestSkip("Fh13h10h10v06l000l100l200", 1);
    }

    private static void noSkip() {
        bestSkip("F", NONE);
        bestSkip("Fv40", NONE);
        bestSkip("Fh10v40s0", NONE);
        bestSkip("Fh13v40", NONE);
        bestSkip("Fh13h10h19h10v40s1s3", NONE);
        bestSkip("Fh10", 0);
        bestSkip("Fh12", 0);
        HarvestBoxes x = Check.farm("Fh10h10");
        for (int week = 0; week < 3; week++) {
            Check.same("before week " + week, x.bestSkip(), 0);
            x.pack();
        }
        Check.same("when all owe 3", x.bestSkip(), NONE);
    }

    private static void bestMore(String text, int due) {
        Check.same("bestMore of " + text, Check.farm(text).bestMore(), due);
    }

    private static void below40() {
        bestMore("Fh10v40v39", 1);
        bestMore("Fh10v39v40", 0);
        bestMore("Fh10v40v39l009l010", 1);
        bestMore("Fh10v40v40v40v40v00l009l019l029l039l040", 4);
        bestMore("Fh10v39l000", 0);
    }

    private static void greatestOfAll() {
        bestMore("Fh10v05v05v05l006l017l027", 1);
        bestMore("Fh10v05v05v05v05v05l049", 4);
        // A kilo more of vegetable 0 goes to house 0, which likes it 7, one of vegetable 1 to house 1, which likes it 8.
        bestMore("Fh10h10v02v02l007l010l100l118", 1);
        // The kilo of vegetable 0 is swapped by house 0 for one of vegetable 1.
        bestMore("Fh10h10v00v02l002l011l105l111", 0);
        // 28 with a kilo more of vegetable 0, 27 with one of vegetable 1: all houses together, behind a swap.
        bestMore("Fh10h10v02v02l004l015l106l113", 0);
        // 18 and 5 by a kilo more: the second one of vegetable 0 is glut, the third one would make it a share of each.
        bestMore("Fh10h10h10v01v00l009l100l200", 0);
        // 9 and 16 or 18 and 8, each less than the 18 and 16 that there would be without a kilo more.
        bestMore("Fh10h10h10v02v02l009l100l200l018l110l210", 1);
        moreAmongOthers();
        moreOfWhatCameJustNow();
    }

    private static void moreAmongOthers() {
        // House 0, with two parts of three, gets 6 of 9 kilos of vegetable 0: 61 and 65.
        Check.same("a credit", withCredits("Fh10h10v00v00l001s0", 8, 8).bestMore(), 1);
        // House 1 alone gets a box, and likes both alike.
        bestMore("Fh10h10v01v04l000s0", 0);
        // House 0 alone gets a box, and likes both alike.
        bestMore("Fh10h13v01v02l100", 0);
    }

    private static void moreOfWhatCameJustNow() {
        HarvestBoxes x = new HarvestBoxes();
        x.addHouse(1);
        x.addVegetable(0);
        Check.same("one vegetable that came just now", x.bestMore(), 0);
        x.addVegetable(0);
        x.setLiking(0, 1, 9);
        Check.same("another one that came just now", x.bestMore(), 1);
    }

    private static void lowestMore() {
        bestMore("Fh10v05v05v05v05v05", 0);
        bestMore("Fh10v40v05v05v05v05", 1);
        bestMore("Fh10v05v05v05l006l017l027", 1);
        bestMore("Fv40v40v03v02", 2);
        bestMore("Fh10v40v03v02s0", 1);
        bestMore("Fh10v03v02l000l010", 0);
    }

    private static void noMore() {
        bestMore("F", NONE);
        bestMore("Fh10", NONE);
        bestMore("Fv40", NONE);
        bestMore("Fh10v40v40v40v40v40", NONE);
        HarvestBoxes x = Check.farm("Fh10v40v40v40v40v40");
        x.setHarvest(4, 39);
        Check.same("one kilo is missing", x.bestMore(), 4);
        x.setHarvest(4, 40);
        Check.same("no kilo is missing", x.bestMore(), NONE);
        x.pack();
        Check.same("behind a week", x.bestMore(), 0);
    }

    private static void firstSwaps() {
        HarvestBoxes x = Check.farm("Fh10h10h10h10h10h10v06v06v06v06v06");
        Check.same("empty boxes", x.firstSwap(), NONE);
        x.pack();
        x.setLiking(4, 4, 9);
        x.setLiking(5, 3, 6);
        Check.same("the last houses and vegetables", x.firstSwap(), 4534);
        x.setLiking(1, 0, 9);
        x.setLiking(0, 1, 9);
        Check.same("the first ones", x.firstSwap(), 101);
        x.setHarvest(0, 40);
        x.skip(0, true);
        x.skip(1, true);
        Check.same("the boxes are as they are now", x.firstSwap(), 101);
        x.give(0, 0, 1);
        Check.same("without its vegetable 0 house 0 swaps with house 4", x.firstSwap(), 441);
        firstOfSeveralSwaps();
    }

    /** Swaps with the same gain: the one with the lowest a, then b, then v, then w would be made first. */
    private static void firstOfSeveralSwaps() {
        // 0 with 3 (0 for 1), 1 with 2 (2 for 3) and 1 with 3 (0 for 1).
        HarvestBoxes x = Check.farm("Fh10h10h10h10v04v04v04v04");
        x.pack();
        int[][] likings = {{5, 6, 5, 5}, {5, 6, 5, 6}, {5, 6, 6, 5}, {6, 5, 5, 5}};
        for (int cell = 0; cell < 16; cell++) {
            x.setLiking(cell / 4, cell % 4, likings[cell / 4][cell % 4]);
        }
        Check.same("the lowest a, though its b is not the lowest", x.firstSwap(), 301);
        // 0 with 1 (1 for 2) and 0 with 2 (0 for 2).
        HarvestBoxes y = Check.farm("Fh10h10h10v03v03v03");
        y.pack();
        y.setLiking(0, 2, 6);
        y.setLiking(1, 1, 6);
        y.setLiking(2, 0, 6);
        Check.same("the lowest b, though its v is not the lowest", y.firstSwap(), 112);
    }

    private static void noSwap() {
        Check.same("nothing", new HarvestBoxes().firstSwap(), NONE);
        Check.same("empty boxes", Check.farm("Fh10h10v02v02l009l010l100l119").firstSwap(), NONE);
        HarvestBoxes alone = Check.farm("Fh10v02v02l009l010");
        alone.pack();
        Check.same("one house", alone.firstSwap(), NONE);
        HarvestBoxes x = Check.farm("Fh10h10v02v02");
        x.pack();
        Check.same("all likings are alike", x.firstSwap(), NONE);
        x.setLiking(0, 0, 4);
        Check.same("one house alone gains", x.firstSwap(), NONE);
        x.setLiking(1, 1, 4);
        Check.same("both gain", x.firstSwap(), 101);
        x.give(1, 1, 1);
        Check.same("one has none", x.firstSwap(), NONE);
        HarvestBoxes full = Check.farm(Twins.FULL_TEXT);
        full.pack();
        Check.same("behind the swaps of a week", full.firstSwap(), NONE);
    }
}
