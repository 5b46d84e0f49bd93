import java.util.function.Consumer;

/** Promises 12 to 20 but for the packing itself: actions, what they refuse, and how they are taken back. */
public final class ActionTest {
    private static final Class<IllegalArgumentException> BAD_ARGUMENT = IllegalArgumentException.class;
    private static final Class<IllegalStateException> BAD_STATE = IllegalStateException.class;
    private static final Class<IndexOutOfBoundsException> NOT_THERE = IndexOutOfBoundsException.class;
    private static final int MIN = Integer.MIN_VALUE;
    private static final int MAX = Integer.MAX_VALUE;

    public static void main(String[] args) {
        promise12();
        promise13();
        promise14();
        promise15();
        promise16();
        promise18();
        promise19();
        promise20TakesBackEach();
        promise20Remembers14();
        promise20NoAction();
        promise20Refusals();
        Check.end("ActionTest");
    }

    private static void promise12() {
        HarvestBoxes x = Check.farm("Fv07");
        for (int size : new int[] {0, 5, -1, MIN, MAX}) {
            Check.fails("addHouse(" + size + ")", BAD_ARGUMENT, () -> x.addHouse(size));
        }
        int[] sizes = {1, 2, 3, 4, 4, 1};
        for (int h = 0; h < sizes.length; h++) {
            Check.same("addHouse", x.addHouse(sizes[h]), h);
            Check.same("houses", x.about(0), h + 1);
            Check.same("its size", x.house(h, 0), sizes[h]);
            for (int what = 1; what <= 5; what++) {
                Check.same("house(" + h + ", " + what + ") of a new house", x.house(h, what), 0);
            }
            Check.same("it gets a box", x.house(h, 6), 1);
            Check.same("its liking", x.liking(h, 0), 5);
        }
        Check.fails("a seventh house", BAD_STATE, () -> x.addHouse(1));
        Check.fails("a seventh house, the range first", BAD_ARGUMENT, () -> x.addHouse(5));
        Check.fails("a seventh house, the range first", BAD_ARGUMENT, () -> x.addHouse(0));
        HarvestBoxes fresh = new HarvestBoxes();
        fresh.addHouse(1);
        fresh.addVegetable(1);
        Check.same("the first liking without a text", fresh.liking(0, 0), 5);
        x.setLiking(5, 0, 9);
        x.undo();
        Check.same("undo of addHouse", x.undo(), 5);
        Check.same("the house comes again", x.addHouse(2), 5);
        Check.same("its liking is the first one", x.liking(5, 0), 5);
    }

    private static void promise13() {
        HarvestBoxes x = Check.farm("Fh10");
        for (int harvest : new int[] {-1, 41, MIN, MAX}) {
            Check.fails("addVegetable(" + harvest + ")", BAD_ARGUMENT, () -> x.addVegetable(harvest));
        }
        int[] harvests = {0, 40, 1, 39, 7};
        for (int v = 0; v < harvests.length; v++) {
            Check.same("addVegetable", x.addVegetable(harvests[v]), v);
            Check.same("vegetables", x.about(1), v + 1);
            Check.same("its harvest", x.vegetable(v, 0), harvests[v]);
            Check.same("in boxes", x.vegetable(v, 1), 0);
            Check.same("composted", x.vegetable(v, 2), 0);
            Check.same("its liking", x.liking(0, v), 5);
            Check.same("in the box", x.box(0, v), 0);
        }
        Check.fails("a sixth vegetable", BAD_STATE, () -> x.addVegetable(1));
        Check.fails("a sixth vegetable, the range first", BAD_ARGUMENT, () -> x.addVegetable(41));
        Check.fails("a sixth vegetable, the range first", BAD_ARGUMENT, () -> x.addVegetable(-1));
        Check.same("undo of addVegetable", x.undo(), 4);
        Check.same("the vegetable is gone", x.about(1), 4);
    }

    private static void promise14() {
        HarvestBoxes x = Check.farm("Fv07v12");
        Check.same("setHarvest", x.setHarvest(1, 40), 12);
        Check.same("setHarvest", x.setHarvest(1, 0), 40);
        Check.same("setHarvest", x.setHarvest(1, 0), 0);
        Check.same("the other one stays", x.vegetable(0, 0), 7);
        for (int n : new int[] {-1, 41, MIN, MAX}) {
            Check.fails("setHarvest(0, " + n + ")", BAD_ARGUMENT, () -> x.setHarvest(0, n));
        }
        for (int v : new int[] {-1, 2, MIN, MAX}) {
            Check.fails("setHarvest(" + v + ", 1)", NOT_THERE, () -> x.setHarvest(v, 1));
            Check.fails("the vegetable first", NOT_THERE, () -> x.setHarvest(v, 41));
        }
    }

    private static void promise15() {
        HarvestBoxes x = Check.farm("Fh10h10v07v12v01");
        Check.same("setLiking", x.setLiking(1, 2, 9), 5);
        Check.same("setLiking", x.setLiking(1, 2, 0), 9);
        Check.same("liking", x.liking(1, 2), 0);
        Check.same("another house", x.liking(0, 2), 5);
        Check.same("another vegetable", x.liking(1, 1), 5);
        for (int n : new int[] {-1, 10, MIN, MAX}) {
            Check.fails("setLiking(0, 0, " + n + ")", BAD_ARGUMENT, () -> x.setLiking(0, 0, n));
        }
        for (int h : new int[] {-1, 2, MIN, MAX}) {
            Check.fails("setLiking(" + h + ", 0, 1)", NOT_THERE, () -> x.setLiking(h, 0, 1));
            Check.fails("the house first", NOT_THERE, () -> x.setLiking(h, 0, 10));
        }
        for (int v : new int[] {-1, 3, MIN, MAX}) {
            Check.fails("setLiking(0, " + v + ", 1)", NOT_THERE, () -> x.setLiking(0, v, 1));
            Check.fails("the vegetable first", NOT_THERE, () -> x.setLiking(0, v, -1));
        }
    }

    private static void promise16() {
        HarvestBoxes x = Check.farm("Fh10h20h13");
        Check.same("skip", x.skip(0, true), 1);
        Check.same("it skips", x.house(0, 3), 1);
        Check.same("it gets none", x.house(0, 6), 0);
        Check.same("skip again", x.skip(0, true), 1);
        Check.same("skip of one that owes 3", x.skip(2, true), 1);
        Check.same("skip", x.skip(1, true), 0);
        Check.same("skip no more", x.skip(0, false), 1);
        Check.same("it skips no more", x.house(0, 3), 0);
        Check.same("skip no more, but it owes 3", x.skip(2, false), 1);
        Check.same("skip no more", x.skip(1, false), 2);
        for (int h : new int[] {-1, 3, MIN, MAX}) {
            Check.fails("skip(" + h + ")", NOT_THERE, () -> x.skip(h, true));
        }
    }

    private static void promise18() {
        HarvestBoxes x = Check.farm("Fh10h29h14");
        Check.same("returnCrates", x.returnCrates(1, 2), 7);
        Check.same("owed", x.house(1, 1), 7);
        Check.same("owed by all", x.about(7), 11);
        Check.same("all of them", x.returnCrates(1, 7), 0);
        Check.same("it gets a box again", x.house(1, 6), 1);
        Check.fails("it owes none", BAD_STATE, () -> x.returnCrates(1, 1));
        Check.fails("one too many", BAD_STATE, () -> x.returnCrates(2, 5));
        Check.fails("nine", BAD_STATE, () -> x.returnCrates(2, 9));
        for (int n : new int[] {0, -1, 10, MIN, MAX}) {
            Check.fails("returnCrates(0, " + n + ")", BAD_ARGUMENT, () -> x.returnCrates(0, n));
        }
        for (int h : new int[] {-1, 3, MIN, MAX}) {
            Check.fails("returnCrates(" + h + ", 1)", NOT_THERE, () -> x.returnCrates(h, 1));
            Check.fails("the house first", NOT_THERE, () -> x.returnCrates(h, 0));
        }
        HarvestBoxes y = Check.farm("Fh19");
        Check.same("nine of nine", y.returnCrates(0, 9), 0);
    }

    private static void promise19() {
        HarvestBoxes x = Check.farm("Fh10h13v40v05v00");
        x.pack();
        Check.same("give", x.give(0, 1, 2), 3);
        Check.same("the box", x.box(0, 1), 3);
        Check.same("the other vegetable", x.box(0, 0), 40);
        Check.same("given away", x.about(5), 2);
        Check.same("in all boxes", x.about(3), 43);
        Check.same("all of it", x.give(0, 0, 40), 0);
        Check.same("given away", x.about(5), 42);
        Check.fails("none is left", BAD_STATE, () -> x.give(0, 0, 1));
        Check.fails("one too many", BAD_STATE, () -> x.give(0, 1, 4));
        Check.fails("an empty box", BAD_STATE, () -> x.give(1, 1, 1));
        for (int n : new int[] {0, -1, 41, MIN, MAX}) {
            Check.fails("give(0, 1, " + n + ")", BAD_ARGUMENT, () -> x.give(0, 1, n));
        }
        for (int h : new int[] {-1, 2, MIN, MAX}) {
            Check.fails("give(" + h + ", 1, 1)", NOT_THERE, () -> x.give(h, 1, 1));
            Check.fails("the house first", NOT_THERE, () -> x.give(h, 1, 0));
        }
        for (int v : new int[] {-1, 3, MIN, MAX}) {
            Check.fails("give(0, " + v + ", 1)", NOT_THERE, () -> x.give(0, v, 1));
            Check.fails("the vegetable first", NOT_THERE, () -> x.give(0, v, 41));
        }
    }

    private static HarvestBoxes packedFarm() {
        HarvestBoxes x = Check.farm("Fh10h22v12v08l009l011l101l119");
        x.pack();
        x.setHarvest(0, 11);
        x.skip(1, true);
        return x;
    }

    private static void takesBack(String what, Consumer<HarvestBoxes> action) {
        HarvestBoxes x = packedFarm();
        String before = Check.pictureOf(x);
        action.accept(x);
        x.undo();
        Check.same("undo of " + what, Check.pictureOf(x), before);
    }

    private static void promise20TakesBackEach() {
        takesBack("addHouse", x -> x.addHouse(3));
        takesBack("addVegetable", x -> x.addVegetable(9));
        takesBack("setHarvest", x -> x.setHarvest(1, 9));
        takesBack("setLiking", x -> x.setLiking(1, 1, 2));
        takesBack("skip", x -> x.skip(0, true));
        takesBack("pack", x -> x.pack());
        takesBack("returnCrates", x -> x.returnCrates(1, 3));
        takesBack("give", x -> x.give(0, 0, 1));
        HarvestBoxes x = packedFarm();
        Check.same("two actions stay", x.undo(), 2);
        Check.same("one action stays", x.undo(), 1);
        Check.same("none stays", x.undo(), 0);
        Check.same("the week is taken back", x.about(2), 0);
        Check.same("its swaps too", x.about(8), 0);
        Check.failsAndKeeps(x, "undo of nothing", BAD_STATE, () -> x.undo());
    }

    private static void promise20Remembers14() {
        HarvestBoxes x = Check.farm("Fh10v00");
        for (int n = 1; n <= 20; n++) {
            x.setHarvest(0, n);
        }
        for (int left = 13; left >= 0; left--) {
            Check.same("undo", x.undo(), left);
            Check.same("the harvest before", x.vegetable(0, 0), left + 6);
        }
        Check.failsAndKeeps(x, "the oldest are forgotten", BAD_STATE, () -> x.undo());
        x.setHarvest(0, 30);
        Check.same("one is remembered again", x.undo(), 0);
        Check.same("the harvest before", x.vegetable(0, 0), 6);
        for (int n = 1; n <= 14; n++) {
            x.setHarvest(0, n);
        }
        Check.same("14 are remembered", x.undo(), 13);
        x.setHarvest(0, 35);
        Check.same("again 14", x.undo(), 13);
        Check.same("the harvest before", x.vegetable(0, 0), 13);
    }

    private static void promise20NoAction() {
        HarvestBoxes x = Check.farm("Fh10v07");
        x.setHarvest(0, 7);
        x.skip(0, false);
        x.setLiking(0, 0, 5);
        Check.same("also if nothing became different", x.undo(), 2);
        x.append('x');
        x.clearText();
        x.save(0);
        Check.same("undo is no action, nor are texts and saving", x.undo(), 1);
        x.append('F');
        x.setHarvest(0, 1);
        x.undo();
        Check.same("undo keeps the text", x.clearText(), 1);
        x.setHarvest(0, 2);
        x.save(1);
        x.undo();
        x.undo();
        x.restore(1);
        Check.same("undo keeps the slots", x.vegetable(0, 0), 2);
        Check.same("and the older one", x.restore(0), 0);
        Check.same("as it was", x.vegetable(0, 0), 7);
    }

    private static void promise20Refusals() {
        HarvestBoxes x = Check.farm("Fh10v07");
        x.pack();
        x.skip(0, true);
        Check.fails("addHouse(9)", BAD_ARGUMENT, () -> x.addHouse(9));
        Check.fails("addVegetable(99)", BAD_ARGUMENT, () -> x.addVegetable(99));
        Check.fails("setHarvest(0, 99)", BAD_ARGUMENT, () -> x.setHarvest(0, 99));
        Check.fails("setLiking(0, 0, 99)", BAD_ARGUMENT, () -> x.setLiking(0, 0, 99));
        Check.fails("skip(9, true)", NOT_THERE, () -> x.skip(9, true));
        Check.fails("returnCrates(0, 9)", BAD_STATE, () -> x.returnCrates(0, 9));
        Check.fails("give(0, 0, 9)", BAD_STATE, () -> x.give(0, 0, 9));
        Check.same("calls that throw are no actions", x.undo(), 1);
    }
}
