/** Promises 1 to 5: a new object, the text and what is loaded from it. */
public final class TextTest {
    private static final Class<IllegalArgumentException> BAD_ARGUMENT = IllegalArgumentException.class;
    private static final Class<IllegalStateException> BAD_STATE = IllegalStateException.class;
    private static final Class<IndexOutOfBoundsException> NOT_THERE = IndexOutOfBoundsException.class;

    public static void main(String[] args) {
        promise1();
        promise2();
        promise3();
        promise4Farms();
        promise4Houses();
        promise4Vegetables();
        promise4Likings();
        promise4Skips();
        promise4Limits();
        promise5();
        promise5ReplacesAll();
        promise5BehindTrials();
        promise5Refuses();
        Check.end("TextTest");
    }

    private static void promise1() {
        HarvestBoxes x = new HarvestBoxes();
        for (int what = 0; what <= 9; what++) {
            Check.same("new: about(" + what + ")", x.about(what), 0);
        }
        Check.same("new: order(0)", x.order(0), HarvestBoxes.NONE);
        Check.same("new: firstSwap", x.firstSwap(), HarvestBoxes.NONE);
        Check.same("new: errorPosition", x.errorPosition(), 0);
        Check.same("new: clearText", x.clearText(), 0);
        Check.fails("new: house", NOT_THERE, () -> x.house(0, 0));
        Check.fails("new: vegetable", NOT_THERE, () -> x.vegetable(0, 0));
        Check.fails("new: undo", BAD_STATE, () -> x.undo());
        Check.fails("new: restore(0)", BAD_STATE, () -> x.restore(0));
        Check.fails("new: restore(1)", BAD_STATE, () -> x.restore(1));
        Check.same("the constant", HarvestBoxes.NONE, -9);
        HarvestBoxes y = new HarvestBoxes();
        x.addHouse(1);
        Check.same("objects are apart", y.about(0), 0);
    }

    private static void promise2() {
        HarvestBoxes x = new HarvestBoxes();
        Check.same("append", x.append('F'), 1);
        Check.same("append(0)", x.append(0), 2);
        Check.same("append(255)", x.append(255), 3);
        int[] wrong = {-1, 256, Integer.MIN_VALUE, Integer.MAX_VALUE};
        for (int c : wrong) {
            Check.fails("append(" + c + ")", BAD_ARGUMENT, () -> x.append(c));
        }
        for (int length = 4; length <= 120; length++) {
            Check.same("append", x.append('s'), length);
        }
        Check.fails("append to 120", BAD_STATE, () -> x.append('s'));
        Check.fails("append to 120, the range first", BAD_ARGUMENT, () -> x.append(-1));
        Check.fails("append to 120, the range first", BAD_ARGUMENT, () -> x.append(256));
        Check.fails("append is no action", BAD_STATE, () -> x.undo());
        Check.same("append that throws", x.clearText(), 120);
        Check.same("append behind clearText", x.append('F'), 1);
    }

    private static void promise3() {
        HarvestBoxes x = Check.withText("Fh10");
        Check.same("clearText", x.clearText(), 4);
        Check.same("clearText of nothing", x.clearText(), 0);
        Check.same("append behind clearText", x.append('F'), 1);
        Check.same("the text is new", x.errorPosition(), HarvestBoxes.NONE);
        Check.fails("clearText is no action", BAD_STATE, () -> x.undo());
        HarvestBoxes y = Check.farm("Fh10v07");
        Check.changes(y, "clearText", () -> y.clearText(), "errorPosition()=0");
    }

    private static void error(String text, int due) {
        Check.same("errorPosition of " + text, Check.withText(text).errorPosition(), due);
    }

    private static void farmIs(String text) {
        error(text, HarvestBoxes.NONE);
    }

    private static void promise4Farms() {
        error("", 0);
        error("f", 0);
        error("h10", 0);
        error(" F", 0);
        farmIs("F");
        error("FF", 1);
        error("F ", 1);
        error("F0", 1);
        error("FH10", 1);
        error("Fh10 ", 4);
        error("Fh10" + (char) 0, 4);
        error("Fh10" + (char) 255, 4);
        farmIs("Fs".substring(0, 1));
        farmIs("Fh10v40l009s0");
        farmIs("Fv40v00h49h10l119l008s1s0s1");
    }

    private static void promise4Houses() {
        error("Fh", 2);
        error("Fh0", 2);
        error("Fh5", 2);
        error("Fhh", 2);
        error("Fh1", 3);
        error("Fh4", 3);
        error("Fh1x", 3);
        error("Fh1/", 3);
        error("Fh1:", 3);
        farmIs("Fh10");
        farmIs("Fh49");
        farmIs("Fh10h20h30h40h15h29");
        error("Fh10h20h30h40h15h29h10", 19);
        error("Fh10h20h30h40h15h29h", 19);
    }

    private static void promise4Vegetables() {
        error("Fv", 2);
        error("Fv5", 2);
        error("Fv9", 2);
        error("Fv/", 2);
        error("Fv4", 3);
        error("Fv0", 3);
        error("Fv41", 3);
        error("Fv49", 3);
        error("Fv3:", 3);
        error("Fv3/", 3);
        farmIs("Fv40");
        farmIs("Fv00");
        farmIs("Fv39");
        farmIs("Fv09v10v20v29v30");
        error("Fv09v10v20v29v30v00", 16);
        error("Fv09v10v20v29v30v", 16);
    }

    private static void promise4Likings() {
        error("Fl", 1);
        error("Fh10l", 4);
        error("Fv00l", 4);
        error("Fh10v00l", 8);
        error("Fh10v00l1", 8);
        error("Fh10v00l/", 8);
        error("Fh10v00l0", 9);
        error("Fh10v00l01", 9);
        error("Fh10v00l00", 10);
        error("Fh10v00l00:", 10);
        error("Fh10v00l00/", 10);
        error("Fh10v00l0/", 9);
        error("Fh10v00l00h", 10);
        farmIs("Fh10v00l000");
        farmIs("Fh10v00l009");
        farmIs("Fv00h10l009l001");
        error("Fh10v00l100h20", 8);
        farmIs("Fh10v00h20l100");
        error("Fh10v00l010v20", 9);
        farmIs("Fh10v00v20l010");
    }

    private static void promise4Skips() {
        error("Fs", 1);
        error("Fv00s", 4);
        error("Fh10s", 5);
        error("Fh10s1", 5);
        error("Fh10s1h20", 5);
        error("Fh10s:", 5);
        error("Fh10s/", 5);
        farmIs("Fh10s0");
        farmIs("Fh10s0s0");
        farmIs("Fh10s0h20s1");
        farmIs("Fh10h10h10h10h10h10s5");
        error("Fh10h10h10h10h10h10s6", 20);
    }

    private static void promise4Limits() {
        String longest = "Fh10v00h10" + "l005".repeat(27) + "s0";
        Check.same("the longest text", longest.length(), 120);
        farmIs(longest);
        error(longest.substring(0, 119), 119);
        error(longest.substring(0, 119) + "2", 119);
        HarvestBoxes x = Check.withText("Fh10");
        Check.same("errorPosition again", x.errorPosition(), x.errorPosition());
        Check.same("errorPosition keeps the text", x.clearText(), 4);
        Check.same("errorPosition loads nothing", x.about(0), 0);
        Check.fails("errorPosition is no action", BAD_STATE, () -> x.undo());
    }

    private static void promise5() {
        HarvestBoxes x = Check.withText("Fh14h29v40v07l018l013s1");
        Check.same("load", x.load(), 2);
        Check.same("size", x.house(0, 0), 1);
        Check.same("size", x.house(1, 0), 2);
        Check.same("crates", x.house(0, 1), 4);
        Check.same("crates", x.house(1, 1), 9);
        Check.same("credit", x.house(0, 2), 0);
        Check.same("no skip", x.house(0, 3), 0);
        Check.same("skip", x.house(1, 3), 1);
        Check.same("harvest", x.vegetable(0, 0), 40);
        Check.same("harvest", x.vegetable(1, 0), 7);
        Check.same("vegetables", x.about(1), 2);
        Check.same("a liking that is not told", x.liking(0, 0), 5);
        Check.same("the later liking", x.liking(0, 1), 3);
        Check.same("a liking that is not told", x.liking(1, 1), 5);
        Check.same("empty boxes", x.about(3), 0);
        Check.fails("load is no action", BAD_STATE, () -> x.undo());
        Check.same("load keeps the text", x.clearText(), 23);
        Check.write(x, "F");
        Check.same("load of a farm without houses", x.load(), 0);
        Check.same("no vegetables", x.about(1), 0);
    }

    private static void promise5ReplacesAll() {
        HarvestBoxes x = Check.farm("Fh10v03s0");
        String fresh = Check.pictureOf(x);
        x.pack();
        x.setHarvest(0, 9);
        x.setLiking(0, 0, 8);
        x.addHouse(3);
        x.addVegetable(4);
        x.setLiking(1, 1, 2);
        x.pack();
        x.give(0, 0, 1);
        x.setHarvest(0, 9);
        x.pack();
        x.save(0);
        x.save(1);
        x.setHarvest(0, 40);
        Check.same("load again", x.load(), 1);
        Check.same("load replaces everything", Check.pictureOf(x), fresh);
        Check.fails("load forgets the states", BAD_STATE, () -> x.undo());
        Check.fails("load empties slot 0", BAD_STATE, () -> x.restore(0));
        Check.fails("load empties slot 1", BAD_STATE, () -> x.restore(1));
        Check.same("likings of a house that comes back", x.addHouse(1), 1);
        Check.same("likings of a vegetable that comes back", x.addVegetable(1), 1);
        Check.same("first liking", x.liking(1, 1), 5);
    }

    private static void promise5BehindTrials() {
        String text = "Fh10h10h10v06v07l009l011l101l119s2";
        HarvestBoxes x = Check.farm(text);
        String fresh = Check.pictureOf(x);
        Check.same("three swaps would be made", x.wouldBe(0), 54);
        x.load();
        Check.same("those swaps do not show", Check.pictureOf(x), fresh);
        x.setLiking(0, 1, 0);
        x.setLiking(1, 1, 0);
        x.pack();
        x.give(0, 0, 1);
        x.load();
        Check.same("the week does not show", Check.pictureOf(x), fresh);
        x.skip(0, true);
        x.pack();
        x.give(1, 0, 1);
        x.setLiking(1, 1, 0);
        x.setLiking(2, 1, 0);
        x.skip(0, true);
        x.setHarvest(0, 6);
        x.setHarvest(1, 7);
        // A week with swaps, eaten, given and composted kilos, and credits.
        Check.same("what would be", x.wouldGet(0, 0), 0);
        x.load();
        Check.same("what would be does not show", Check.pictureOf(x), fresh);
        x.runScript(3, 4000_6001_3110L);
        x.simulate(1, 9);
        x.load();
        Check.same("what was tried out does not show", Check.pictureOf(x), fresh);
        Check.write(x, text + "s0l228h49v40");
        x.errorPosition();
        Check.write(x, text);
        x.load();
        Check.same("a text that was looked at does not show", Check.pictureOf(x), fresh);
    }

    private static void promise5Refuses() {
        HarvestBoxes x = Check.farm("Fh10v03");
        x.save(1);
        x.addHouse(2);
        x.addHouse(3);
        x.append('h');
        Check.failsAndKeeps(x, "load of no farm", BAD_STATE, () -> x.load());
        Check.same("load that throws keeps the states", x.undo(), 1);
        Check.same("load that throws keeps the slots", x.restore(1), 0);
        Check.same("load that throws keeps the text", x.clearText(), 8);
        Check.fails("load of nothing", BAD_STATE, () -> x.load());
    }
}
