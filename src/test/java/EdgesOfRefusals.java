/** The edges of the section "EXCEPTIONS": what each exception means, which of several comes first, and what stays. */
final class EdgesOfRefusals {
    private static final Class<IllegalArgumentException> BAD_ARGUMENT = IllegalArgumentException.class;
    private static final Class<IllegalStateException> BAD_STATE = IllegalStateException.class;
    private static final Class<IndexOutOfBoundsException> NOT_THERE = IndexOutOfBoundsException.class;
    private static final int MIN = Integer.MIN_VALUE;
    private static final int MAX = Integer.MAX_VALUE;
    private static final int[] NO_HOUSES = {-1, 6, MIN, MAX};
    private static final int[] NO_VEGETABLES = {-1, 5, MIN, MAX};

    private EdgesOfRefusals() {
    }

    static void all() {
        Doc.in("Terms");
        Doc.plain("EXCEPTIONS");
        Doc.edge("IndexOutOfBoundsException means that a house or a vegetable does not exist, or that a save slot is not 0 or 1.",
                EdgesOfRefusals::notThere);
        Doc.edge("IllegalArgumentException means that another argument is out of its range.", EdgesOfRefusals::badArguments);
        Doc.edge("IllegalStateException means what the method says.", EdgesOfRefusals::badStates);
        Doc.edge("If several exceptions apply to a call, the one that its description names first is thrown.",
                EdgesOfRefusals::firstOfSeveral);
        Doc.edge("A call that throws an exception changes nothing.", EdgesOfRefusals::nothingChanges);
    }

    private static void notThere() {
        HarvestBoxes x = Twins.full();
        for (int h : NO_HOUSES) {
            Check.fails("house", NOT_THERE, () -> x.house(h, 0));
            Check.fails("box", NOT_THERE, () -> x.box(h, 0));
            Check.fails("liking", NOT_THERE, () -> x.liking(h, 0));
            Check.fails("setLiking", NOT_THERE, () -> x.setLiking(h, 0, 0));
            Check.fails("skip", NOT_THERE, () -> x.skip(h, false));
            Check.fails("returnCrates", NOT_THERE, () -> x.returnCrates(h, 1));
            Check.fails("give", NOT_THERE, () -> x.give(h, 0, 1));
            Check.fails("wouldGet", NOT_THERE, () -> x.wouldGet(h, 0));
            Check.fails("wouldBe", NOT_THERE, () -> x.wouldBe(h));
        }
        for (int v : NO_VEGETABLES) {
            Check.fails("vegetable", NOT_THERE, () -> x.vegetable(v, 0));
            Check.fails("box", NOT_THERE, () -> x.box(0, v));
            Check.fails("liking", NOT_THERE, () -> x.liking(0, v));
            Check.fails("setHarvest", NOT_THERE, () -> x.setHarvest(v, 0));
            Check.fails("setLiking", NOT_THERE, () -> x.setLiking(0, v, 0));
            Check.fails("give", NOT_THERE, () -> x.give(0, v, 1));
            Check.fails("wouldGet", NOT_THERE, () -> x.wouldGet(0, v));
        }
        for (int slot : new int[] {-1, 2, MIN, MAX}) {
            Check.fails("save", NOT_THERE, () -> x.save(slot));
            Check.fails("restore", NOT_THERE, () -> x.restore(slot));
        }
        HarvestBoxes five = Check.farm("Fh10h10h10h10h10v00v00v00v00");
        Check.fails("the sixth house of five", NOT_THERE, () -> five.skip(5, true));
        Check.fails("the fifth vegetable of four", NOT_THERE, () -> five.setHarvest(4, 0));
        five.addHouse(1);
        five.addVegetable(0);
        Check.same("the sixth house", five.skip(5, true), 5);
        Check.same("the fifth vegetable", five.setHarvest(4, 1), 0);
        five.undo();
        five.undo();
        five.undo();
        five.undo();
        Check.fails("the sixth house is gone", NOT_THERE, () -> five.skip(5, true));
        Check.fails("the fifth vegetable is gone", NOT_THERE, () -> five.setHarvest(4, 0));
    }

    private static void badArguments() {
        HarvestBoxes x = Check.farm("Fh19v40");
        Check.fails("append", BAD_ARGUMENT, () -> x.append(256));
        Check.fails("about", BAD_ARGUMENT, () -> x.about(10));
        Check.fails("house", BAD_ARGUMENT, () -> x.house(0, 7));
        Check.fails("vegetable", BAD_ARGUMENT, () -> x.vegetable(0, 4));
        Check.fails("order", BAD_ARGUMENT, () -> x.order(-1));
        Check.fails("addHouse", BAD_ARGUMENT, () -> x.addHouse(5));
        Check.fails("addVegetable", BAD_ARGUMENT, () -> x.addVegetable(41));
        Check.fails("setHarvest", BAD_ARGUMENT, () -> x.setHarvest(0, 41));
        Check.fails("setLiking", BAD_ARGUMENT, () -> x.setLiking(0, 0, 10));
        Check.fails("returnCrates", BAD_ARGUMENT, () -> x.returnCrates(0, 0));
        Check.fails("give", BAD_ARGUMENT, () -> x.give(0, 0, 0));
        Check.fails("runScript", BAD_ARGUMENT, () -> x.runScript(5, 0));
        Check.fails("simulate", BAD_ARGUMENT, () -> x.simulate(0, 31));
    }

    private static void badStates() {
        HarvestBoxes x = Twins.full();
        Check.fails("append", BAD_STATE, () -> x.append(0));
        Check.fails("addHouse", BAD_STATE, () -> x.addHouse(1));
        Check.fails("addVegetable", BAD_STATE, () -> x.addVegetable(0));
        Check.fails("returnCrates", BAD_STATE, () -> x.returnCrates(0, 2));
        Check.fails("give", BAD_STATE, () -> x.give(3, 0, 1));
        HarvestBoxes y = new HarvestBoxes();
        Check.fails("load", BAD_STATE, () -> y.load());
        Check.fails("undo", BAD_STATE, () -> y.undo());
        Check.fails("restore", BAD_STATE, () -> y.restore(0));
    }

    private static void firstOfSeveral() {
        for (int c : new int[] {-1, 256, MIN, MAX}) {
            Twins.refuse(Twins::full, "append(" + c + ") to a full text", BAD_ARGUMENT, x -> x.append(c));
        }
        for (int size : new int[] {0, 5, MIN, MAX}) {
            Twins.refuse(Twins::full, "addHouse(" + size + ") behind six", BAD_ARGUMENT, x -> x.addHouse(size));
        }
        for (int harvest : new int[] {-1, 41, MIN, MAX}) {
            Twins.refuse(Twins::full, "addVegetable(" + harvest + ") behind five", BAD_ARGUMENT, x -> x.addVegetable(harvest));
        }
        for (int h : NO_HOUSES) {
            Twins.refuseAlways("house(" + h + ", -1)", NOT_THERE, x -> x.house(h, -1));
            Twins.refuseAlways("house(" + h + ", 7)", NOT_THERE, x -> x.house(h, 7));
            Twins.refuseAlways("setLiking(" + h + ", 0, -1)", NOT_THERE, x -> x.setLiking(h, 0, -1));
            Twins.refuseAlways("setLiking(" + h + ", -1, 10)", NOT_THERE, x -> x.setLiking(h, -1, 10));
            Twins.refuseAlways("returnCrates(" + h + ", 0)", NOT_THERE, x -> x.returnCrates(h, 0));
            Twins.refuseAlways("returnCrates(" + h + ", 10)", NOT_THERE, x -> x.returnCrates(h, 10));
            Twins.refuseAlways("give(" + h + ", 0, 0)", NOT_THERE, x -> x.give(h, 0, 0));
            Twins.refuseAlways("give(" + h + ", 5, 41)", NOT_THERE, x -> x.give(h, 5, 41));
        }
        for (int v : NO_VEGETABLES) {
            Twins.refuseAlways("vegetable(" + v + ", -1)", NOT_THERE, x -> x.vegetable(v, -1));
            Twins.refuseAlways("vegetable(" + v + ", 4)", NOT_THERE, x -> x.vegetable(v, 4));
            Twins.refuseAlways("setHarvest(" + v + ", -1)", NOT_THERE, x -> x.setHarvest(v, -1));
            Twins.refuseAlways("setHarvest(" + v + ", 41)", NOT_THERE, x -> x.setHarvest(v, 41));
            Twins.refuseAlways("setLiking(0, " + v + ", 10)", NOT_THERE, x -> x.setLiking(0, v, 10));
            Twins.refuseAlways("give(0, " + v + ", 0)", NOT_THERE, x -> x.give(0, v, 0));
            Twins.refuseAlways("give(0, " + v + ", 41)", NOT_THERE, x -> x.give(0, v, 41));
        }
        // House 0 of the full farm owes a crate and house 3 has an empty box; with nothing no slot is in use.
        Twins.refuse(Twins::full, "returnCrates(0, 10) of one", BAD_ARGUMENT, x -> x.returnCrates(0, 10));
        Twins.refuse(Twins::full, "give(3, 0, 41) of none", BAD_ARGUMENT, x -> x.give(3, 0, 41));
        Twins.refuse(Twins::nothing, "restore(2)", NOT_THERE, x -> x.restore(2));
        Twins.refuse(Twins::nothing, "restore(-1)", NOT_THERE, x -> x.restore(-1));
    }

    private static void nothingChanges() {
        Twins.refuse(Twins::full, "append", BAD_STATE, x -> x.append('F'));
        Twins.refuse(Twins::some, "load", BAD_STATE, x -> x.load());
        Twins.refuse(Twins::full, "about", BAD_ARGUMENT, x -> x.about(10));
        Twins.refuse(Twins::full, "house", NOT_THERE, x -> x.house(6, 0));
        Twins.refuse(Twins::full, "vegetable", NOT_THERE, x -> x.vegetable(5, 0));
        Twins.refuse(Twins::full, "box", NOT_THERE, x -> x.box(6, 0));
        Twins.refuse(Twins::full, "liking", NOT_THERE, x -> x.liking(0, 5));
        Twins.refuse(Twins::full, "order", BAD_ARGUMENT, x -> x.order(-1));
        Twins.refuse(Twins::full, "addHouse", BAD_STATE, x -> x.addHouse(1));
        Twins.refuse(Twins::full, "addVegetable", BAD_STATE, x -> x.addVegetable(0));
        Twins.refuse(Twins::full, "setHarvest", BAD_ARGUMENT, x -> x.setHarvest(0, 41));
        Twins.refuse(Twins::full, "setLiking", BAD_ARGUMENT, x -> x.setLiking(0, 0, 10));
        Twins.refuse(Twins::full, "skip", NOT_THERE, x -> x.skip(6, true));
        Twins.refuse(Twins::full, "returnCrates", BAD_STATE, x -> x.returnCrates(0, 2));
        Twins.refuse(Twins::full, "give", BAD_STATE, x -> x.give(3, 0, 1));
        Twins.refuse(() -> Check.farm(Twins.FULL_TEXT), "undo", BAD_STATE, x -> x.undo());
        Twins.refuse(Twins::full, "wouldGet", NOT_THERE, x -> x.wouldGet(6, 0));
        Twins.refuse(Twins::full, "wouldBe", NOT_THERE, x -> x.wouldBe(-1));
        Twins.refuse(Twins::full, "runScript", BAD_ARGUMENT, x -> x.runScript(1, 10000));
        Twins.refuse(Twins::full, "simulate", BAD_ARGUMENT, x -> x.simulate(0, 31));
        Twins.refuse(Twins::full, "save", NOT_THERE, x -> x.save(2));
        Twins.refuse(Twins::some, "restore", BAD_STATE, x -> x.restore(1));
    }
}
