/** Promises 28 and 29: save slots. */
public final class SlotTest {
    private static final Class<IllegalStateException> BAD_STATE = IllegalStateException.class;
    private static final Class<IndexOutOfBoundsException> NOT_THERE = IndexOutOfBoundsException.class;
    private static final int[] NO_SLOTS = {-1, 2, Integer.MIN_VALUE, Integer.MAX_VALUE};

    public static void main(String[] args) {
        promise28();
        promise29();
        promise29Forgets();
        promise29Refuses();
        Check.end("SlotTest");
    }

    private static void promise28() {
        HarvestBoxes x = Check.farm("Fh10v05");
        x.pack();
        x.pack();
        Check.keeps(x, "save", () -> Check.same("save", x.save(0), 2));
        Check.same("save keeps the states", x.undo(), 1);
        Check.same("save", x.save(1), 1);
        for (int slot : NO_SLOTS) {
            Check.failsAndKeeps(x, "save(" + slot + ")", NOT_THERE, () -> x.save(slot));
        }
        Check.same("slot 0", x.restore(0), 2);
        Check.same("slot 1", x.restore(1), 1);
    }

    private static void promise29() {
        HarvestBoxes x = Check.farm("Fh10h20v12v08l009l011l101l119");
        x.pack();
        x.give(0, 0, 1);
        x.setHarvest(1, 40);
        x.skip(1, true);
        String first = Check.pictureOf(x);
        x.save(1);
        x.addHouse(3);
        x.addVegetable(9);
        x.setLiking(2, 2, 1);
        x.returnCrates(0, 1);
        x.pack();
        String second = Check.pictureOf(x);
        x.save(0);
        Check.same("restore", x.restore(1), 1);
        Check.same("all is as it was", Check.pictureOf(x), first);
        x.pack();
        Check.same("the other slot", x.restore(0), 2);
        Check.same("all is as it was", Check.pictureOf(x), second);
        Check.same("the slot keeps it", x.restore(1), 1);
        Check.same("all is as it was", Check.pictureOf(x), first);
        x.save(0);
        x.addHouse(1);
        x.restore(0);
        Check.same("a slot is overwritten", Check.pictureOf(x), first);
        x.append('x');
        x.restore(1);
        Check.same("the text is no part of it", x.clearText(), 30);
    }

    private static void promise29Forgets() {
        HarvestBoxes x = Check.farm("Fh10");
        x.save(0);
        x.addHouse(1);
        x.addHouse(1);
        x.restore(0);
        Check.failsAndKeeps(x, "restore forgets the states", BAD_STATE, () -> x.undo());
        x.addHouse(4);
        Check.same("restore is no action", x.undo(), 0);
        Check.same("the state of the slot", x.about(0), 1);
    }

    private static void promise29Refuses() {
        HarvestBoxes x = Check.farm("Fh10v05");
        x.addHouse(2);
        Check.failsAndKeeps(x, "nothing in slot 0", BAD_STATE, () -> x.restore(0));
        x.save(0);
        Check.failsAndKeeps(x, "nothing in slot 1", BAD_STATE, () -> x.restore(1));
        for (int slot : NO_SLOTS) {
            Check.failsAndKeeps(x, "restore(" + slot + ")", NOT_THERE, () -> x.restore(slot));
        }
        Check.same("restore that throws keeps the states", x.undo(), 0);
        x.load();
        Check.failsAndKeeps(x, "nothing since the last load", BAD_STATE, () -> x.restore(0));
        x.save(0);
        x.append('?');
        Check.fails("load of no farm", BAD_STATE, () -> x.load());
        Check.same("such a load empties no slot", x.restore(0), 0);
    }
}
