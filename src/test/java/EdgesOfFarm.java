/** The edges of what a farm is, and of a new object: each number at its least and at its most. */
final class EdgesOfFarm {
    private static final Class<IllegalArgumentException> BAD_ARGUMENT = IllegalArgumentException.class;
    private static final Class<IllegalStateException> BAD_STATE = IllegalStateException.class;
    private static final Class<IndexOutOfBoundsException> NOT_THERE = IndexOutOfBoundsException.class;
    private static final int NONE = HarvestBoxes.NONE;
    private static final int CALLS = 512;

    private EdgesOfFarm() {
    }

    static void all() {
        Doc.in("What it is");
        Doc.plain("Vegetable boxes: houses with boxes of several sizes and likings, harvests that are shared out by sizes, "
                + "gluts that go to those who like them, swaps between houses until nobody gains, crates that are owed and "
                + "returned, weeks that are skipped and made up for.");
        Doc.edge("An object is used for at most 512 calls after it has been made", EdgesOfFarm::theLastCall);
        Doc.plain("what later calls answer is free.");
        Doc.in("Terms");
        Doc.plain("It tells what a house would get, who would be left out, which harvest would please most, and keeps account "
                + "of each kilo. Changes can be undone.", "HOUSES AND VEGETABLES");
        Doc.edge("There are at most 6 houses", EdgesOfFarm::sixHouses);
        Doc.edge("numbered from 0 in the order in which they were added", EdgesOfFarm::numbersOfHouses);
        Doc.edge("each with a size from 1 to 4", EdgesOfFarm::sizes);
        Doc.edge("with crates that it owes (0 to 9)", EdgesOfFarm::crates);
        Doc.edge("with a credit (0 to 9)", EdgesOfFarm::credits);
        Doc.edge("and with a mark whether it skips the next week.", EdgesOfFarm::marks);
        Doc.edge("There are at most 5 vegetables", EdgesOfFarm::fiveVegetables);
        Doc.edge("numbered likewise", EdgesOfFarm::numbersOfVegetables);
        Doc.edge("each with a harvest for the next week of 0 to 40 kilos.", EdgesOfFarm::harvests);
        Doc.edge("Each house has a liking from 0 to 9 for each vegetable", EdgesOfFarm::likings);
        Doc.edge("at first 5.", EdgesOfFarm::firstLikings);
        Doc.edge("A house has a box with kilos of each vegetable, at first none.", EdgesOfFarm::firstBoxes);
        Doc.edge("The constants: `NONE = -9`: There is no such result.", EdgesOfFarm::theConstant);
        Doc.in("Promise 1");
        Doc.edge("`HarvestBoxes()`: Creates a farm without houses and vegetables.", EdgesOfFarm::aNewObject);
    }

    private static void theLastCall() {
        HarvestBoxes weeks = new HarvestBoxes();
        weeks.addHouse(1);
        weeks.addVegetable(40);
        for (int call = 3; call < CALLS; call++) {
            weeks.pack();
        }
        Check.same("the weeks that the last call tells", weeks.about(2), CALLS - 3);
        HarvestBoxes harvests = new HarvestBoxes();
        harvests.addVegetable(0);
        for (int call = 2; call < CALLS; call++) {
            harvests.setHarvest(0, call % 41);
        }
        Check.same("undo as the last call", harvests.undo(), 13);
        HarvestBoxes text = new HarvestBoxes();
        for (int call = 1; call <= 120; call++) {
            text.append('F');
        }
        for (int call = 121; call < CALLS; call++) {
            Check.fails("append as call " + call, BAD_STATE, () -> text.append('F'));
        }
        Check.same("clearText as the last call", text.clearText(), 120);
        longAccount();
    }

    /** 512 calls: two to make the farm, three for each of 169 weeks, and three that ask. */
    private static void longAccount() {
        HarvestBoxes x = new HarvestBoxes();
        x.addHouse(1);
        x.addVegetable(0);
        for (int week = 0; week < 169; week++) {
            x.setHarvest(0, 40);
            x.pack();
            x.returnCrates(0, 1);
        }
        Check.same("eaten in 169 weeks", x.about(4), 168 * 40);
        Check.same("in the box of the last one", x.about(3), 40);
        Check.same("the weeks", x.about(2), 169);
    }

    private static void sixHouses() {
        HarvestBoxes added = new HarvestBoxes();
        for (int h = 0; h < 6; h++) {
            Check.same("addHouse", added.addHouse(1), h);
        }
        Check.fails("a seventh house", BAD_STATE, () -> added.addHouse(1));
        Check.same("houses", added.about(0), 6);
        HarvestBoxes told = Check.farm("Fh10h10h10h10h10");
        Check.same("the sixth one behind five of a text", told.addHouse(4), 5);
        Check.fails("the seventh one behind five of a text", BAD_STATE, () -> told.addHouse(4));
        HarvestBoxes all = Check.farm("Fh10h10h10h10h10h10");
        Check.fails("one more than a text's six", BAD_STATE, () -> all.addHouse(1));
        Check.same("a text with seven", Check.withText("Fh10h10h10h10h10h10h10").errorPosition(), 19);
    }

    private static void numbersOfHouses() {
        HarvestBoxes x = Check.farm("Fh21h12");
        Check.same("the house that comes next", x.addHouse(4), 2);
        Check.same("and next", x.addHouse(3), 3);
        int[] sizes = {2, 1, 4, 3};
        for (int h = 0; h < sizes.length; h++) {
            Check.same("size of house " + h, x.house(h, 0), sizes[h]);
        }
        Check.fails("house -1", NOT_THERE, () -> x.house(-1, 0));
        Check.fails("house 4", NOT_THERE, () -> x.house(4, 0));
    }

    private static void sizes() {
        HarvestBoxes x = new HarvestBoxes();
        Check.fails("size 0", BAD_ARGUMENT, () -> x.addHouse(0));
        Check.fails("size 5", BAD_ARGUMENT, () -> x.addHouse(5));
        x.addHouse(1);
        x.addHouse(4);
        Check.same("the least size", x.house(0, 0), 1);
        Check.same("the greatest size", x.house(1, 0), 4);
        HarvestBoxes y = Check.farm("Fh10h40");
        Check.same("the least size of a text", y.house(0, 0), 1);
        Check.same("the greatest size of a text", y.house(1, 0), 4);
    }

    private static void crates() {
        HarvestBoxes x = Check.farm("Fh10h19v03");
        Check.same("the fewest crates", x.house(0, 1), 0);
        Check.same("the most crates", x.house(1, 1), 9);
        x.pack();
        Check.same("the most crates behind a week", x.house(1, 1), 9);
        x.returnCrates(0, 1);
        Check.same("the fewest crates again", x.house(0, 1), 0);
        Check.fails("fewer than none", BAD_STATE, () -> x.returnCrates(0, 1));
    }

    private static void credits() {
        for (int size = 1; size <= 4; size++) {
            HarvestBoxes x = Check.farm("Fh" + size + "0h10");
            Check.same("the first credit", x.house(0, 2), 0);
            x.pack();
            Check.same("no credit below 0", x.house(0, 2), 0);
            for (int week = 1; week <= 10; week++) {
                x.skip(0, true);
                x.pack();
                Check.same(week + " weeks skipped by size " + size, x.house(0, 2), Math.min(9, week * size));
            }
        }
    }

    private static void marks() {
        HarvestBoxes x = Check.farm("Fh10h10s1");
        Check.same("a house that is told without a mark", x.house(0, 3), 0);
        Check.same("a house that is told with a mark", x.house(1, 3), 1);
        x.addHouse(1);
        Check.same("a house that is added", x.house(2, 3), 0);
    }

    private static void fiveVegetables() {
        HarvestBoxes added = new HarvestBoxes();
        for (int v = 0; v < 5; v++) {
            Check.same("addVegetable", added.addVegetable(0), v);
        }
        Check.fails("a sixth vegetable", BAD_STATE, () -> added.addVegetable(0));
        Check.same("vegetables", added.about(1), 5);
        HarvestBoxes told = Check.farm("Fv00v00v00v00");
        Check.same("the fifth one behind four of a text", told.addVegetable(40), 4);
        Check.fails("the sixth one behind four of a text", BAD_STATE, () -> told.addVegetable(40));
        HarvestBoxes all = Check.farm("Fv00v00v00v00v00");
        Check.fails("one more than a text's five", BAD_STATE, () -> all.addVegetable(0));
        Check.same("a text with six", Check.withText("Fv00v00v00v00v00v00").errorPosition(), 16);
    }

    private static void numbersOfVegetables() {
        HarvestBoxes x = Check.farm("Fv21v12");
        Check.same("the vegetable that comes next", x.addVegetable(4), 2);
        Check.same("and next", x.addVegetable(3), 3);
        int[] harvests = {21, 12, 4, 3};
        for (int v = 0; v < harvests.length; v++) {
            Check.same("harvest of vegetable " + v, x.vegetable(v, 0), harvests[v]);
        }
        Check.fails("vegetable -1", NOT_THERE, () -> x.vegetable(-1, 0));
        Check.fails("vegetable 4", NOT_THERE, () -> x.vegetable(4, 0));
    }

    private static void harvests() {
        HarvestBoxes x = Check.farm("Fv00v40");
        Check.same("the least harvest", x.vegetable(0, 0), 0);
        Check.same("the greatest harvest", x.vegetable(1, 0), 40);
        Check.fails("less than nothing", BAD_ARGUMENT, () -> x.setHarvest(0, -1));
        Check.fails("more than 40", BAD_ARGUMENT, () -> x.setHarvest(0, 41));
        x.setHarvest(0, 40);
        x.setHarvest(1, 0);
        Check.same("the greatest harvest is set", x.vegetable(0, 0), 40);
        Check.same("the least harvest is set", x.vegetable(1, 0), 0);
    }

    private static void likings() {
        HarvestBoxes x = Check.farm("Fh10h10v00l000l109");
        Check.same("the least liking", x.liking(0, 0), 0);
        Check.same("the greatest liking", x.liking(1, 0), 9);
        Check.fails("less than 0", BAD_ARGUMENT, () -> x.setLiking(0, 0, -1));
        Check.fails("more than 9", BAD_ARGUMENT, () -> x.setLiking(0, 0, 10));
        HarvestBoxes all = Check.farm("Fh10h10h10h10h10h10v00v00v00v00v00");
        for (int cell = 0; cell < 30; cell++) {
            all.setLiking(cell / 5, cell % 5, cell % 10);
        }
        for (int cell = 0; cell < 30; cell++) {
            Check.same("each liking is its own", all.liking(cell / 5, cell % 5), cell % 10);
        }
    }

    private static void firstLikings() {
        HarvestBoxes[] farms = {new HarvestBoxes(), Check.farm("F"), Check.farm("Fh10h10v00"), Check.farm("Fv00v00h10")};
        for (HarvestBoxes x : farms) {
            for (int h = x.about(0); h < 6; h++) {
                x.addHouse(1);
            }
            for (int v = x.about(1); v < 5; v++) {
                x.addVegetable(0);
            }
            for (int cell = 0; cell < 30; cell++) {
                Check.same("liking of cell " + cell, x.liking(cell / 5, cell % 5), 5);
            }
        }
        HarvestBoxes again = Check.farm("Fv00");
        again.addHouse(1);
        again.setLiking(0, 0, 9);
        again.undo();
        again.undo();
        again.addHouse(1);
        Check.same("of a house that comes again", again.liking(0, 0), 5);
    }

    private static void firstBoxes() {
        HarvestBoxes x = Check.farm("Fh10h10h10h10h10h10v40v40v40v40v40");
        for (int cell = 0; cell < 30; cell++) {
            Check.same("box of cell " + cell, x.box(cell / 5, cell % 5), 0);
        }
        HarvestBoxes y = Check.farm("Fh10v40");
        y.pack();
        y.addHouse(1);
        y.addVegetable(40);
        Check.boxes(y, "of those that come later", new int[][] {{40, 0}, {0, 0}});
    }

    private static void theConstant() {
        Check.same("NONE", HarvestBoxes.NONE, -9);
        Check.same("an answer that is none", new HarvestBoxes().order(0), -9);
    }

    private static void aNewObject() {
        HarvestBoxes x = new HarvestBoxes();
        for (int what = 0; what <= 9; what++) {
            Check.same("about(" + what + ")", x.about(what), 0);
        }
        Check.fails("house(0, 0)", NOT_THERE, () -> x.house(0, 0));
        Check.fails("vegetable(0, 0)", NOT_THERE, () -> x.vegetable(0, 0));
        Check.same("order(0)", x.order(0), NONE);
        Check.same("bestSkip", x.bestSkip(), NONE);
        Check.same("bestMore", x.bestMore(), NONE);
        Check.same("firstSwap", x.firstSwap(), NONE);
        Check.fails("undo", BAD_STATE, () -> x.undo());
        Check.fails("restore(0)", BAD_STATE, () -> x.restore(0));
        Check.fails("restore(1)", BAD_STATE, () -> x.restore(1));
        Check.same("the text is empty", x.clearText(), 0);
        Check.fails("load", BAD_STATE, () -> x.load());
        HarvestBoxes loaded = Check.farm("F");
        loaded.clearText();
        Check.same("it is like the least farm of a text", Check.pictureOf(new HarvestBoxes()), Check.pictureOf(loaded));
    }
}
