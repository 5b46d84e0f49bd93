/** The edges of promises 28 and 29: the save slots. */
final class EdgesOfSlots {
    private static final Class<IllegalStateException> BAD_STATE = IllegalStateException.class;
    private static final Class<IndexOutOfBoundsException> NOT_THERE = IndexOutOfBoundsException.class;
    private static final int[] NO_SLOTS = {-1, 2, Integer.MIN_VALUE, Integer.MAX_VALUE};

    private EdgesOfSlots() {
    }

    static void all() {
        Doc.in("Promise 28");
        Doc.edge("`int save(int slot) throws IndexOutOfBoundsException`: Stores the present state in a save slot.",
                EdgesOfSlots::stored);
        Doc.edge("- `slot`: 0 or 1", EdgesOfSlots::bothSlots);
        Doc.edge("Returns the number of weeks that were packed.", EdgesOfSlots::weeksOfSave);
        Doc.edge("Throws `IndexOutOfBoundsException` if there is no such save slot", EdgesOfSlots::noSuchSlotToSave);
        Doc.in("Promise 29");
        Doc.edge("`int restore(int slot) throws IndexOutOfBoundsException, IllegalStateException`: Replaces the state by the one "
                + "in a save slot,", EdgesOfSlots::replaced);
        Doc.edge("and forgets all remembered states.", EdgesOfSlots::forgets);
        Doc.edge("The save slot keeps it.", EdgesOfSlots::keepsIt);
        Doc.edge("- `slot`: 0 or 1", EdgesOfSlots::eitherSlot);
        Doc.edge("Returns the number of weeks that were packed then.", EdgesOfSlots::weeksOfRestore);
        Doc.edge("Throws `IndexOutOfBoundsException` if there is no such save slot", EdgesOfSlots::noSuchSlot);
        Doc.edge("Throws `IllegalStateException` if nothing has been saved in it since the last load", EdgesOfSlots::nothingSaved);
    }

    private static void stored() {
        String present = Check.pictureOf(Twins.full());
        HarvestBoxes x = Twins.full();
        x.save(0);
        Check.same("save keeps the 14 states", x.undo(), 13);
        x.setHarvest(0, 1);
        x.restore(0);
        Check.same("what was present", Check.pictureOf(x), present);
        HarvestBoxes y = Twins.full();
        y.save(1);
        Check.same("save changes nothing that there is", Check.pictureOf(y), present);
        HarvestBoxes nothing = new HarvestBoxes();
        nothing.save(1);
        nothing.addHouse(1);
        nothing.restore(1);
        Check.same("the least state", nothing.about(0), 0);
    }

    private static void bothSlots() {
        HarvestBoxes x = new HarvestBoxes();
        x.addHouse(1);
        x.save(0);
        x.addHouse(1);
        x.save(1);
        x.addHouse(1);
        x.restore(0);
        Check.same("slot 0", x.about(0), 1);
        x.restore(1);
        Check.same("slot 1", x.about(0), 2);
        x.save(0);
        x.addHouse(1);
        x.save(1);
        x.restore(0);
        Check.same("slot 0 is overwritten", x.about(0), 2);
        x.restore(1);
        Check.same("slot 1 is overwritten", x.about(0), 3);
    }

    private static void weeksOfSave() {
        HarvestBoxes x = new HarvestBoxes();
        Check.same("none", x.save(0), 0);
        x.pack();
        Check.same("one", x.save(0), 1);
        x.pack();
        Check.same("two", x.save(1), 2);
        x.undo();
        Check.same("behind undo", x.save(1), 1);
    }

    private static void noSuchSlotToSave() {
        for (int slot : NO_SLOTS) {
            Twins.refuseAlways("save(" + slot + ")", NOT_THERE, x -> x.save(slot));
        }
    }

    private static void replaced() {
        HarvestBoxes x = Check.farm(Twins.FULL_TEXT);
        x.save(0);
        x.pack();
        x.give(0, 0, 1);
        x.setHarvest(4, 40);
        x.pack();
        x.restore(0);
        Check.same("by the state of a full farm", Check.pictureOf(x), Check.pictureOf(Check.farm(Twins.FULL_TEXT)));
        HarvestBoxes compost = Check.farm("Fh10v00v00v00v00v40s0");
        compost.save(1);
        compost.pack();
        compost.restore(1);
        Check.same("composted of the last vegetable of five", compost.vegetable(4, 2), 0);
        HarvestBoxes y = new HarvestBoxes();
        y.save(1);
        Check.write(y, "Fh10v07");
        y.addHouse(4);
        y.addVegetable(40);
        y.setLiking(0, 0, 9);
        y.pack();
        y.restore(1);
        y.addHouse(1);
        y.addVegetable(0);
        Check.same("nothing of the other state is left", y.liking(0, 0) * 10 + y.box(0, 0), 50);
        Check.same("the text is no part of it", y.clearText(), 7);
    }

    private static void forgets() {
        HarvestBoxes x = Twins.full();
        x.restore(0);
        Check.fails("undo behind 14 states and restore", BAD_STATE, () -> x.undo());
        x.skip(0, false);
        Check.same("one state again", x.undo(), 0);
        HarvestBoxes y = Twins.some();
        y.save(1);
        y.restore(1);
        Check.fails("undo behind save and restore", BAD_STATE, () -> y.undo());
    }

    private static void keepsIt() {
        HarvestBoxes x = Check.farm("Fh10v07");
        x.save(1);
        for (int times = 0; times < 3; times++) {
            x.setHarvest(0, 40);
            x.pack();
            x.addHouse(4);
            Check.same("restore", x.restore(1), 0);
            Check.same("its harvest", x.vegetable(0, 0), 7);
            Check.same("its houses", x.about(0), 1);
        }
        x.setHarvest(0, 9);
        x.undo();
        x.simulate(1, 30);
        x.setHarvest(0, 11);
        x.restore(1);
        Check.same("also what was restored is no part of the slot", x.vegetable(0, 0), 7);
    }

    private static void eitherSlot() {
        for (int slot = 0; slot < 2; slot++) {
            HarvestBoxes x = new HarvestBoxes();
            int other = 1 - slot;
            x.save(slot);
            x.addHouse(1);
            x.restore(slot);
            Check.same("restore(" + slot + ")", x.about(0), 0);
            Check.fails("restore(" + other + ")", BAD_STATE, () -> x.restore(other));
        }
    }

    private static void weeksOfRestore() {
        HarvestBoxes x = Check.farm("Fh10");
        x.save(0);
        x.pack();
        x.pack();
        x.save(1);
        x.pack();
        Check.same("two", x.restore(1), 2);
        Check.same("none", x.restore(0), 0);
        Check.same("two again", x.restore(1), 2);
        Check.same("the weeks of the state", x.about(2), 2);
    }

    private static void noSuchSlot() {
        for (int slot : NO_SLOTS) {
            Twins.refuseAlways("restore(" + slot + ")", NOT_THERE, x -> x.restore(slot));
        }
    }

    private static void nothingSaved() {
        Twins.refuse(Twins::nothing, "restore(0)", BAD_STATE, x -> x.restore(0));
        Twins.refuse(Twins::nothing, "restore(1)", BAD_STATE, x -> x.restore(1));
        Twins.refuse(Twins::some, "restore(1) when slot 0 is in use", BAD_STATE, x -> x.restore(1));
        for (int slot = 0; slot < 2; slot++) {
            int one = slot;
            Twins.refuse(EdgesOfSlots::fullLoadedAgain, "restore behind load", BAD_STATE, x -> x.restore(one));
        }
        HarvestBoxes x = Twins.some();
        Check.fails("load of no farm", BAD_STATE, () -> x.load());
        Check.same("behind a load that throws", x.restore(0), 1);
        HarvestBoxes y = fullLoadedAgain();
        y.save(1);
        Check.same("saved since the last load", y.restore(1), 0);
        Check.fails("but not in slot 0", BAD_STATE, () -> y.restore(0));
    }

    private static HarvestBoxes fullLoadedAgain() {
        HarvestBoxes x = Twins.full();
        x.load();
        return x;
    }
}
