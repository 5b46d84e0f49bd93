/** The edges of promises 12 to 16, 18 and 19: actions. EdgesOfWeek has promise 17, EdgesOfUndo promise 20. */
final class EdgesOfActions {
    private static final Class<IllegalArgumentException> BAD_ARGUMENT = IllegalArgumentException.class;
    private static final Class<IllegalStateException> BAD_STATE = IllegalStateException.class;
    private static final Class<IndexOutOfBoundsException> NOT_THERE = IndexOutOfBoundsException.class;
    private static final int MIN = Integer.MIN_VALUE;
    private static final int MAX = Integer.MAX_VALUE;

    private EdgesOfActions() {
    }

    static void all() {
        promises12And13();
        promises14And15();
        promise16();
        promise18();
        promise19();
    }

    private static void promises12And13() {
        Doc.in("Promise 12");
        Doc.edge("`int addHouse(int size) throws IllegalArgumentException, IllegalStateException`: Adds a house that owes no "
                + "crates.", EdgesOfActions::newHouse);
        Doc.edge("- `size`: 1 to 4", EdgesOfActions::sizes);
        Doc.edge("Returns its number.", EdgesOfActions::numbersOfHouses);
        Doc.edge("Throws `IllegalArgumentException` if size is out of range", EdgesOfActions::sizesOutOfRange);
        Doc.edge("Throws `IllegalStateException` if there are 6 houses", EdgesOfActions::seventhHouse);
        Doc.in("Promise 13");
        Doc.edge("`int addVegetable(int harvest) throws IllegalArgumentException, IllegalStateException`: Adds a vegetable.",
                EdgesOfActions::newVegetable);
        Doc.edge("- `harvest`: 0 to 40", EdgesOfActions::firstHarvests);
        Doc.edge("Returns its number.", EdgesOfActions::numbersOfVegetables);
        Doc.edge("Throws `IllegalArgumentException` if harvest is out of range", EdgesOfActions::firstHarvestsOutOfRange);
        Doc.edge("Throws `IllegalStateException` if there are 5 vegetables", EdgesOfActions::sixthVegetable);
    }

    private static void promises14And15() {
        Doc.in("Promise 14");
        Doc.edge("`int setHarvest(int v, int n) throws IndexOutOfBoundsException, IllegalArgumentException`: Changes a harvest "
                + "for the next week. - `v`: vegetable", EdgesOfActions::changesAHarvest);
        Doc.edge("- `n`: 0 to 40", EdgesOfActions::harvests);
        Doc.edge("Returns the previous harvest.", EdgesOfActions::previousHarvests);
        Doc.edge("Throws `IndexOutOfBoundsException` if there is no such vegetable", EdgesOfActions::harvestOfNone);
        Doc.edge("Throws `IllegalArgumentException` if n is out of range", EdgesOfActions::harvestsOutOfRange);
        Doc.in("Promise 15");
        Doc.edge("`int setLiking(int h, int v, int n) throws IndexOutOfBoundsException, IllegalArgumentException`: Changes a "
                + "liking. - `h`: house - `v`: vegetable", EdgesOfActions::changesALiking);
        Doc.edge("- `n`: 0 to 9", EdgesOfActions::likings);
        Doc.edge("Returns the previous liking.", EdgesOfActions::previousLikings);
        Doc.edge("Throws `IndexOutOfBoundsException` if there is no such house or vegetable", EdgesOfActions::likingOfNone);
        Doc.edge("Throws `IllegalArgumentException` if n is out of range", EdgesOfActions::likingsOutOfRange);
    }

    private static void promise16() {
        Doc.in("Promise 16");
        Doc.edge("`int skip(int h, boolean is) throws IndexOutOfBoundsException`: Changes whether a house skips the next week.",
                EdgesOfActions::skips);
        Doc.edge("- `h`: house - `is`: whether it does then", EdgesOfActions::changesAMark);
        Doc.edge("Returns how many houses would get a box next week.", EdgesOfActions::boxesNextWeek);
        Doc.edge("Throws `IndexOutOfBoundsException` if there is no such house", EdgesOfActions::skipOfNone);
    }

    private static void promise18() {
        Doc.in("Promise 18");
        Doc.edge("`int returnCrates(int h, int n) throws IndexOutOfBoundsException, IllegalArgumentException, "
                + "IllegalStateException`: A house returns crates. - `h`: house", EdgesOfActions::changesCrates);
        Doc.edge("- `n`: 1 to 9", EdgesOfActions::returned);
        Doc.edge("Returns the crates that it still owes.", EdgesOfActions::stillOwed);
        Doc.edge("Throws `IndexOutOfBoundsException` if there is no such house", EdgesOfActions::cratesOfNone);
        Doc.edge("Throws `IllegalArgumentException` if n is out of range", EdgesOfActions::cratesOutOfRange);
        Doc.edge("Throws `IllegalStateException` if it does not owe so many", EdgesOfActions::tooManyCrates);
    }

    private static void promise19() {
        Doc.in("Promise 19");
        Doc.edge("`int give(int h, int v, int n) throws IndexOutOfBoundsException, IllegalArgumentException, "
                + "IllegalStateException`: A house gives kilos of its box away. - `h`: house - `v`: vegetable",
                EdgesOfActions::changesABox);
        Doc.edge("- `n`: 1 to 40", EdgesOfActions::given);
        Doc.edge("Returns the kilos of this vegetable that are left in its box.", EdgesOfActions::left);
        Doc.edge("Throws `IndexOutOfBoundsException` if there is no such house or vegetable", EdgesOfActions::givenOfNone);
        Doc.edge("Throws `IllegalArgumentException` if n is out of range", EdgesOfActions::givenOutOfRange);
        Doc.edge("Throws `IllegalStateException` if it does not have so many", EdgesOfActions::tooManyKilos);
    }

    /** House 0 has 2 and 2 kilos and owes a crate; house 1 has 3 and 2 and owes three. */
    private static HarvestBoxes someFarm() {
        return packed("Fh10h22v05v04l019l103");
    }

    private static void changesAHarvest() {
        HarvestBoxes x = someFarm();
        Check.changes(x, "setHarvest(1, 9)", () -> x.setHarvest(1, 9), "vegetable(1, 0)=9");
        x.pack();
        Check.boxes(x, "with the harvest that was set", new int[][] {{0, 9}, {0, 0}});
        x.setHarvest(0, 9);
        x.setHarvest(0, 0);
        x.pack();
        Check.same("for the next week alone", x.about(3), 0);
    }

    private static void changesALiking() {
        HarvestBoxes x = someFarm();
        Check.changes(x, "setLiking(1, 0, 7)", () -> x.setLiking(1, 0, 7), "house(1, 5)=31", "vegetable(0, 3)=1",
                "liking(1, 0)=7");
        Check.changes(x, "setLiking(0, 1, 0)", () -> x.setLiking(0, 1, 0), "house(0, 5)=10", "vegetable(1, 3)=1",
                "liking(0, 1)=0");
    }

    private static void changesAMark() {
        HarvestBoxes x = someFarm();
        Check.changes(x, "skip(0, true)", () -> x.skip(0, true), "about(9)=0", "house(0, 3)=1", "house(0, 6)=0");
        Check.changes(x, "skip(0, false)", () -> x.skip(0, false), "about(9)=1", "house(0, 3)=0", "house(0, 6)=1");
        Check.changes(x, "skip(1, true) with three crates", () -> x.skip(1, true), "house(1, 3)=1");
    }

    private static void changesCrates() {
        HarvestBoxes x = someFarm();
        Check.changes(x, "returnCrates(1, 1)", () -> x.returnCrates(1, 1), "about(7)=3", "about(9)=2", "house(1, 1)=2",
                "house(1, 6)=1");
        Check.changes(x, "returnCrates(0, 1)", () -> x.returnCrates(0, 1), "about(7)=2", "house(0, 1)=0");
    }

    private static void changesABox() {
        HarvestBoxes x = someFarm();
        Check.changes(x, "give(1, 0, 2)", () -> x.give(1, 0, 2), "about(3)=7", "about(5)=2", "house(1, 4)=3",
                "house(1, 5)=13", "vegetable(0, 1)=3", "box(1, 0)=1");
        Check.changes(x, "give(0, 1, 2)", () -> x.give(0, 1, 2), "about(3)=5", "about(5)=4", "house(0, 4)=2",
                "house(0, 5)=10", "vegetable(1, 1)=2", "box(0, 1)=0");
    }

    private static void newHouse() {
        HarvestBoxes farm = someFarm();
        Check.changes(farm, "addHouse(4)", () -> farm.addHouse(4), "about(0)=3", "about(9)=2", "house(2, 0)=4", "house(2, 1)=0",
                "house(2, 2)=0", "house(2, 3)=0", "house(2, 4)=0", "house(2, 5)=0", "house(2, 6)=1", "liking(2, 0)=5",
                "box(2, 0)=0", "liking(2, 1)=5", "box(2, 1)=0");
        HarvestBoxes x = Check.farm("Fv07h49s0");
        x.pack();
        int h = x.addHouse(4);
        int[] due = {4, 0, 0, 0, 0, 0, 1};
        for (int what = 0; what < due.length; what++) {
            Check.same("house(" + h + ", " + what + ") of a new house", x.house(h, what), due[what]);
        }
        x.skip(h, true);
        x.pack();
        x.setLiking(h, 0, 9);
        Check.same("undo of all that came later", x.undo() + x.undo() + x.undo() + x.undo(), 4 + 3 + 2 + 1);
        x.addHouse(1);
        Check.same("no credit", x.house(h, 2), 0);
        Check.same("no mark", x.house(h, 3), 0);
        Check.same("no other liking", x.liking(h, 0), 5);
    }

    private static void sizes() {
        HarvestBoxes x = new HarvestBoxes();
        for (int size = 1; size <= 4; size++) {
            int h = x.addHouse(size);
            Check.same("its size", x.house(h, 0), size);
        }
    }

    private static void numbersOfHouses() {
        HarvestBoxes x = new HarvestBoxes();
        for (int h = 0; h < 6; h++) {
            Check.same("addHouse", x.addHouse(1), h);
        }
        x.undo();
        Check.same("the last one again", x.addHouse(1), 5);
        Check.same("behind a text", Check.farm("Fh10h10").addHouse(1), 2);
    }

    private static void sizesOutOfRange() {
        for (int size : new int[] {0, 5, -1, MIN, MAX}) {
            Twins.refuseAlways("addHouse(" + size + ")", BAD_ARGUMENT, x -> x.addHouse(size));
        }
    }

    private static void seventhHouse() {
        Twins.refuse(Twins::full, "a seventh house", BAD_STATE, x -> x.addHouse(1));
        Twins.refuse(() -> Check.farm("Fh10h10h10h10h10h10"), "a seventh house", BAD_STATE, x -> x.addHouse(4));
        Check.same("the sixth one", Check.farm("Fh10h10h10h10h10v00v00v00v00v00").addHouse(4), 5);
    }

    private static void newVegetable() {
        HarvestBoxes farm = someFarm();
        Check.changes(farm, "addVegetable(40)", () -> farm.addVegetable(40), "about(1)=3", "vegetable(2, 0)=40",
                "vegetable(2, 1)=0", "vegetable(2, 2)=0", "vegetable(2, 3)=0", "liking(0, 2)=5", "box(0, 2)=0", "liking(1, 2)=5",
                "box(1, 2)=0");
        HarvestBoxes x = Check.farm("Fh10v07l009");
        x.pack();
        int v = x.addVegetable(9);
        int[] due = {9, 0, 0, 0};
        for (int what = 0; what < due.length; what++) {
            Check.same("vegetable(" + v + ", " + what + ") of a new vegetable", x.vegetable(v, what), due[what]);
        }
        Check.same("its liking", x.liking(0, v), 5);
        x.skip(0, true);
        x.pack();
        Check.same("composted", x.vegetable(v, 2), 9);
        Check.same("undo of all that came later", x.undo() + x.undo() + x.undo(), 3 + 2 + 1);
        x.addVegetable(8);
        Check.same("nothing composted", x.vegetable(v, 2), 0);
    }

    private static void firstHarvests() {
        HarvestBoxes x = new HarvestBoxes();
        for (int harvest : new int[] {0, 1, 39, 40}) {
            int v = x.addVegetable(harvest);
            Check.same("its harvest", x.vegetable(v, 0), harvest);
        }
    }

    private static void numbersOfVegetables() {
        HarvestBoxes x = new HarvestBoxes();
        for (int v = 0; v < 5; v++) {
            Check.same("addVegetable", x.addVegetable(0), v);
        }
        x.undo();
        Check.same("the last one again", x.addVegetable(0), 4);
        Check.same("behind a text", Check.farm("Fv00v00").addVegetable(0), 2);
    }

    private static void firstHarvestsOutOfRange() {
        for (int harvest : new int[] {-1, 41, MIN, MAX}) {
            Twins.refuseAlways("addVegetable(" + harvest + ")", BAD_ARGUMENT, x -> x.addVegetable(harvest));
        }
    }

    private static void sixthVegetable() {
        Twins.refuse(Twins::full, "a sixth vegetable", BAD_STATE, x -> x.addVegetable(0));
        Twins.refuse(() -> Check.farm("Fv00v00v00v00v00"), "a sixth vegetable", BAD_STATE, x -> x.addVegetable(40));
        Check.same("the fifth one", Check.farm("Fv00v00v00v00h10h10h10h10h10h10").addVegetable(40), 4);
    }

    private static void harvests() {
        HarvestBoxes x = Check.farm("Fv07v07v07v07v07");
        for (int n : new int[] {0, 1, 39, 40}) {
            x.setHarvest(4, n);
            Check.same("the harvest", x.vegetable(4, 0), n);
        }
        Check.same("another one stays", x.vegetable(3, 0), 7);
    }

    private static void previousHarvests() {
        HarvestBoxes x = Check.farm("Fv40v00");
        Check.same("the greatest one", x.setHarvest(0, 0), 40);
        Check.same("the least one", x.setHarvest(0, 40), 0);
        Check.same("the same again", x.setHarvest(0, 40), 40);
        x.pack();
        Check.same("behind a week", x.setHarvest(0, 1), 0);
    }

    private static void harvestOfNone() {
        for (int v : new int[] {-1, 5, MIN, MAX}) {
            Twins.refuseAlways("setHarvest(" + v + ", 0)", NOT_THERE, x -> x.setHarvest(v, 0));
        }
        Twins.refuse(Twins::nothing, "setHarvest(0, 0)", NOT_THERE, x -> x.setHarvest(0, 0));
        Twins.refuse(Twins::some, "setHarvest(2, 0)", NOT_THERE, x -> x.setHarvest(2, 0));
    }

    private static void harvestsOutOfRange() {
        for (int n : new int[] {-1, 41, MIN, MAX}) {
            Twins.refuse(Twins::some, "setHarvest(1, " + n + ")", BAD_ARGUMENT, x -> x.setHarvest(1, n));
            Twins.refuse(Twins::full, "setHarvest(4, " + n + ")", BAD_ARGUMENT, x -> x.setHarvest(4, n));
        }
    }

    private static void likings() {
        HarvestBoxes x = Check.farm("Fh10h10h10h10h10h10v00v00v00v00v00");
        for (int n = 0; n <= 9; n++) {
            x.setLiking(5, 4, n);
            Check.same("the liking", x.liking(5, 4), n);
        }
        Check.same("of another house", x.liking(4, 4), 5);
        Check.same("for another vegetable", x.liking(5, 3), 5);
    }

    private static void previousLikings() {
        HarvestBoxes x = Check.farm("Fh10v00");
        Check.same("the first one", x.setLiking(0, 0, 0), 5);
        Check.same("the least one", x.setLiking(0, 0, 9), 0);
        Check.same("the greatest one", x.setLiking(0, 0, 9), 9);
        Check.same("the same again", x.setLiking(0, 0, 5), 9);
        HarvestBoxes y = Check.farm("Fh10h10v00v00l001l012l103l114");
        Check.same("of house 1 for vegetable 0", y.setLiking(1, 0, 9), 3);
        Check.same("of house 0 for vegetable 1", y.setLiking(0, 1, 9), 2);
    }

    private static void likingOfNone() {
        for (int far : new int[] {-1, 6, MIN, MAX}) {
            Twins.refuseAlways("setLiking(" + far + ", 0, 5)", NOT_THERE, x -> x.setLiking(far, 0, 5));
            Twins.refuseAlways("setLiking(0, " + far + ", 5)", NOT_THERE, x -> x.setLiking(0, far, 5));
        }
        Twins.refuse(Twins::nothing, "setLiking(0, 0, 5)", NOT_THERE, x -> x.setLiking(0, 0, 5));
        Twins.refuse(Twins::some, "setLiking(3, 0, 5)", NOT_THERE, x -> x.setLiking(3, 0, 5));
        Twins.refuse(Twins::some, "setLiking(0, 2, 5)", NOT_THERE, x -> x.setLiking(0, 2, 5));
        Twins.refuse(Twins::full, "setLiking(0, 5, 5)", NOT_THERE, x -> x.setLiking(0, 5, 5));
    }

    private static void likingsOutOfRange() {
        for (int n : new int[] {-1, 10, MIN, MAX}) {
            Twins.refuse(Twins::some, "setLiking(0, 0, " + n + ")", BAD_ARGUMENT, x -> x.setLiking(0, 0, n));
            Twins.refuse(Twins::full, "setLiking(5, 4, " + n + ")", BAD_ARGUMENT, x -> x.setLiking(5, 4, n));
        }
    }

    private static void skips() {
        HarvestBoxes x = Check.farm("Fh10h10h10h10h10h10");
        for (int h = 0; h < 6; h += 5) {
            x.skip(h, true);
            Check.same("it skips", x.house(h, 3), 1);
            x.skip(h, true);
            Check.same("it skips still", x.house(h, 3), 1);
            x.skip(h, false);
            Check.same("it skips no more", x.house(h, 3), 0);
            x.skip(h, false);
            Check.same("nor then", x.house(h, 3), 0);
        }
    }

    private static void boxesNextWeek() {
        HarvestBoxes x = Check.farm("Fh10h10h10h10h10h13");
        for (int h = 0; h < 5; h++) {
            Check.same("skip(" + h + ", true)", x.skip(h, true), 4 - h);
        }
        Check.same("skip of one that owes 3", x.skip(5, true), 0);
        Check.same("skip no more of one that owes 3", x.skip(5, false), 0);
        for (int h = 0; h < 5; h++) {
            Check.same("skip(" + h + ", false)", x.skip(h, false), h + 1);
        }
        Check.same("all six", Check.farm("Fh12h12h12h12h12h12").skip(0, false), 6);
    }

    private static void skipOfNone() {
        for (int h : new int[] {-1, 6, MIN, MAX}) {
            Twins.refuseAlways("skip(" + h + ", true)", NOT_THERE, x -> x.skip(h, true));
            Twins.refuseAlways("skip(" + h + ", false)", NOT_THERE, x -> x.skip(h, false));
        }
        Twins.refuse(Twins::nothing, "skip(0, true)", NOT_THERE, x -> x.skip(0, true));
        Twins.refuse(Twins::some, "skip(3, true)", NOT_THERE, x -> x.skip(3, true));
    }

    private static void returned() {
        for (int n = 1; n <= 9; n++) {
            HarvestBoxes x = Check.farm("Fh10h19");
            x.returnCrates(1, n);
            Check.same("returnCrates(1, " + n + ")", x.house(1, 1), 9 - n);
        }
    }

    private static void stillOwed() {
        HarvestBoxes x = Check.farm("Fh19h12");
        Check.same("one", x.returnCrates(0, 1), 8);
        Check.same("all that are left", x.returnCrates(0, 8), 0);
        Check.same("one of two", x.returnCrates(1, 1), 1);
        Check.same("nine of nine", Check.farm("Fh19").returnCrates(0, 9), 0);
    }

    private static void cratesOfNone() {
        for (int h : new int[] {-1, 6, MIN, MAX}) {
            Twins.refuseAlways("returnCrates(" + h + ", 1)", NOT_THERE, x -> x.returnCrates(h, 1));
        }
        Twins.refuse(Twins::nothing, "returnCrates(0, 1)", NOT_THERE, x -> x.returnCrates(0, 1));
        Twins.refuse(Twins::some, "returnCrates(3, 1)", NOT_THERE, x -> x.returnCrates(3, 1));
    }

    private static void cratesOutOfRange() {
        for (int n : new int[] {0, 10, -1, MIN, MAX}) {
            Twins.refuse(Twins::some, "returnCrates(2, " + n + ")", BAD_ARGUMENT, x -> x.returnCrates(2, n));
            Twins.refuse(Twins::full, "returnCrates(4, " + n + ")", BAD_ARGUMENT, x -> x.returnCrates(4, n));
        }
    }

    private static void tooManyCrates() {
        Twins.refuse(() -> Check.farm("Fh10"), "one of none", BAD_STATE, x -> x.returnCrates(0, 1));
        Twins.refuse(() -> Check.farm("Fh18"), "nine of eight", BAD_STATE, x -> x.returnCrates(0, 9));
        Twins.refuse(Twins::some, "four of three", BAD_STATE, x -> x.returnCrates(2, 4));
        Check.same("three of three", Twins.some().returnCrates(2, 3), 0);
        Check.same("eight of eight", Check.farm("Fh18").returnCrates(0, 8), 0);
    }

    private static void given() {
        HarvestBoxes x = Check.farm("Fh10v40v40");
        x.pack();
        Check.same("the least", x.give(0, 0, 1), 39);
        Check.same("the most", x.give(0, 1, 40), 0);
        Check.same("given away", x.about(5), 41);
    }

    private static void left() {
        HarvestBoxes x = Check.farm("Fh10h10v20v40");
        x.pack();
        Check.same("some", x.give(1, 0, 3), 7);
        Check.same("all but one", x.give(1, 0, 6), 1);
        Check.same("none", x.give(1, 0, 1), 0);
        Check.boxes(x, "the other boxes stay", new int[][] {{10, 20}, {0, 20}});
    }

    private static void givenOfNone() {
        for (int far : new int[] {-1, 6, MIN, MAX}) {
            Twins.refuseAlways("give(" + far + ", 0, 1)", NOT_THERE, x -> x.give(far, 0, 1));
            Twins.refuseAlways("give(0, " + far + ", 1)", NOT_THERE, x -> x.give(0, far, 1));
        }
        Twins.refuse(Twins::nothing, "give(0, 0, 1)", NOT_THERE, x -> x.give(0, 0, 1));
        Twins.refuse(Twins::some, "give(3, 0, 1)", NOT_THERE, x -> x.give(3, 0, 1));
        Twins.refuse(Twins::some, "give(0, 2, 1)", NOT_THERE, x -> x.give(0, 2, 1));
        Twins.refuse(Twins::full, "give(0, 5, 1)", NOT_THERE, x -> x.give(0, 5, 1));
    }

    private static void givenOutOfRange() {
        for (int n : new int[] {0, 41, -1, MIN, MAX}) {
            Twins.refuse(Twins::some, "give(0, 0, " + n + ")", BAD_ARGUMENT, x -> x.give(0, 0, n));
            Twins.refuse(Twins::full, "give(5, 4, " + n + ")", BAD_ARGUMENT, x -> x.give(5, 4, n));
        }
    }

    private static void tooManyKilos() {
        Twins.refuse(() -> Check.farm("Fh10v40"), "one of none", BAD_STATE, x -> x.give(0, 0, 1));
        Twins.refuse(() -> packed("Fh10v39"), "40 of 39", BAD_STATE, x -> x.give(0, 0, 40));
        Twins.refuse(() -> packed("Fh10h10v04v40"), "three of two", BAD_STATE, x -> x.give(1, 0, 3));
        Check.same("39 of 39", packed("Fh10v39").give(0, 0, 39), 0);
        Check.same("two of two", packed("Fh10h10v04v40").give(1, 0, 2), 0);
    }

    private static HarvestBoxes packed(String text) {
        HarvestBoxes x = Check.farm(text);
        x.pack();
        return x;
    }
}
