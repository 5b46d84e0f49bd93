/** The edges of the text and of promises 2 to 5. */
final class EdgesOfText {
    private static final Class<IllegalArgumentException> BAD_ARGUMENT = IllegalArgumentException.class;
    private static final Class<IllegalStateException> BAD_STATE = IllegalStateException.class;
    private static final int NONE = HarvestBoxes.NONE;
    private static final int SIGNS = 256;
    private static final int LONGEST = 120;
    private static final String DIGITS = "0123456789";
    private static final String SIX_HOUSES = "Fh10h20h30h40h15h29";
    private static final String FIVE_VEGETABLES = "v00v10v20v30v40";
    /** 118 signs of a farm with two houses and a vegetable. */
    private static final String ALMOST_FULL = "Fh10v00h10" + "l005".repeat(27);

    private EdgesOfText() {
    }

    static void all() {
        terms();
        Doc.in("Promise 2");
        Doc.edge("`int append(int c) throws IllegalArgumentException, IllegalStateException`: Appends a character to the text "
                + "buffer.", EdgesOfText::appends);
        Doc.edge("- `c`: character code, 0 to 255", EdgesOfText::codes);
        Doc.edge("Returns the new length of the text.", EdgesOfText::lengths);
        Doc.edge("Throws `IllegalArgumentException` if c is out of range", EdgesOfText::codesOutOfRange);
        Doc.edge("Throws `IllegalStateException` if the text already has 120 characters", EdgesOfText::appendToFullText);
        Doc.in("Promise 3");
        Doc.edge("`int clearText()`: Empties the text buffer.", EdgesOfText::emptied);
        Doc.edge("Returns the previous length of the text.", EdgesOfText::previousLengths);
        Doc.in("Promise 4");
        Doc.edge("`int errorPosition()`: Checks the text.", EdgesOfText::checksAlone);
        Doc.edge("Returns the error position of the text; NONE if it is a farm.", EdgesOfText::positions);
        Doc.in("Promise 5");
        Doc.edge("`int load() throws IllegalStateException`: Replaces everything by the farm of the text", EdgesOfText::replaced);
        Doc.edge("(no week has passed, nothing is eaten, given away or composted).", EdgesOfText::accountsOfLoaded);
        Doc.edge("Forgets all remembered states", EdgesOfText::loadForgets);
        Doc.edge("and empties both save slots.", EdgesOfText::loadEmptiesSlots);
        Doc.edge("Keeps the text.", EdgesOfText::loadKeepsText);
        Doc.edge("Returns the number of houses.", EdgesOfText::loadedHouses);
        Doc.edge("Throws `IllegalStateException` if the text is not a farm", EdgesOfText::loadRefuses);
    }

    private static void terms() {
        Doc.in("Terms");
        Doc.plain("TEXT");
        Doc.edge("The object has a text buffer of at most 120 characters.", EdgesOfText::fullText);
        Doc.edge("A farm is the letter F, and then any number of parts, in any order:", EdgesOfText::parts);
        Doc.edge("the letter h, a digit from 1 to 4 for the size of a house and one for the crates that it owes",
                EdgesOfText::houses);
        Doc.edge("(at most 6 of these);", EdgesOfText::sixHouses);
        Doc.edge("the letter v and two digits from 00 to 40 for the harvest of a vegetable", EdgesOfText::vegetables);
        Doc.edge("(at most 5);", EdgesOfText::fiveVegetables);
        Doc.edge("the letter l, a digit for a house and one for a vegetable that were told ahead, and a digit for the liking",
                EdgesOfText::likings);
        Doc.edge("(a later one replaces an earlier one);", EdgesOfText::laterLikings);
        Doc.edge("the letter s and a digit for a house that was told ahead: it skips the next week.", EdgesOfText::skips);
        Doc.edge("An l may stand wherever a house and a vegetable were told ahead,", EdgesOfText::placesOfLikings);
        Doc.edge("an s wherever a house was told ahead.", EdgesOfText::placesOfSkips);
        Doc.edge("There are no blanks.", EdgesOfText::blanks);
        Doc.edge("The text is read from left to right.", EdgesOfText::leftToRight);
        Doc.edge("The error position is the index of the first character that these rules do not allow at its place",
                EdgesOfText::firstOfSeveral);
        Doc.edge("(a digit is not allowed if no number that is allowed begins with it and those before it);",
                EdgesOfText::firstDigits);
        Doc.edge("if the text ends too soon, it is the length of the text.", EdgesOfText::endsTooSoon);
    }

    private static void error(String text, int due) {
        Check.same("errorPosition of " + text, Check.withText(text).errorPosition(), due);
    }

    /** Behind these signs stand those that are allowed and no others: all 256 are tried. */
    private static void allowed(String signs, String due) {
        for (int sign = 0; sign < SIGNS; sign++) {
            String text = signs + (char) sign;
            int position = Check.withText(text).errorPosition();
            boolean isAllowed = position == NONE || position == text.length();
            Check.holds("sign " + sign + " behind " + signs, isAllowed == due.indexOf(sign) >= 0);
            Check.holds("a sign that is not allowed is at the place", isAllowed || position == signs.length());
        }
    }

    private static void fullText() {
        HarvestBoxes x = Check.withText(ALMOST_FULL);
        Check.same("character 119", x.append('s'), LONGEST - 1);
        Check.same("character 120", x.append('1'), LONGEST);
        Check.fails("character 121", BAD_STATE, () -> x.append('h'));
        Check.same("a farm of 120 characters", x.errorPosition(), NONE);
        Check.same("it is loaded", x.load(), 2);
        Check.same("its last part too", x.house(1, 3), 1);
        Check.same("the text has 120", x.clearText(), LONGEST);
        HarvestBoxes y = Check.farm(Twins.FULL_TEXT);
        Check.same("six houses", y.about(0), 6);
        Check.same("five vegetables", y.about(1), 5);
        Check.same("the last part of a full text", y.house(1, 3), 1);
        Check.same("the part before", y.liking(5, 2), 3);
    }

    private static void parts() {
        allowed("", "F");
        allowed("F", "hv");
        error("F", NONE);
        error("FF", 1);
        error("Fh10F", 4);
        error("Fh10v40", NONE);
        error("Fv40h10", NONE);
        error("Fh10v40l000s0", NONE);
        error("Fh10s0v40l000", NONE);
        error("Fv40h10l000s0l000h10s1v00l119", NONE);
        HarvestBoxes x = Check.farm("Fv40h12l001s0h33v07l118");
        Check.same("houses", x.about(0), 2);
        Check.same("vegetables", x.about(1), 2);
        Check.same("the last part", x.liking(1, 1), 8);
    }

    private static void houses() {
        allowed("Fh", "1234");
        for (int size = 1; size <= 4; size++) {
            allowed("Fh" + size, DIGITS);
            for (int crates = 0; crates <= 9; crates++) {
                HarvestBoxes x = Check.farm("Fh" + size + crates);
                Check.same("size", x.house(0, 0), size);
                Check.same("crates", x.house(0, 1), crates);
            }
        }
    }

    private static void sixHouses() {
        allowed("Fh10h20h30h40h15", "hvs");
        allowed(SIX_HOUSES, "vs");
        allowed(SIX_HOUSES + "v00", "vls");
        HarvestBoxes x = Check.farm(SIX_HOUSES);
        Check.same("houses", x.about(0), 6);
        Check.same("the last one", x.house(5, 1), 9);
        error(SIX_HOUSES + "h", SIX_HOUSES.length());
        error(SIX_HOUSES + "h10", SIX_HOUSES.length());
    }

    private static void vegetables() {
        allowed("Fv", "01234");
        for (int tens = 0; tens <= 4; tens++) {
            allowed("Fv" + tens, tens == 4 ? "0" : DIGITS);
        }
        for (int harvest = 0; harvest <= 40; harvest++) {
            HarvestBoxes x = Check.farm("Fv" + harvest / 10 + harvest % 10);
            Check.same("harvest", x.vegetable(0, 0), harvest);
        }
    }

    private static void fiveVegetables() {
        allowed("Fv00v10v20v30", "hv");
        allowed("F" + FIVE_VEGETABLES, "h");
        allowed("F" + FIVE_VEGETABLES + "h10", "hls");
        allowed(SIX_HOUSES + FIVE_VEGETABLES, "ls");
        HarvestBoxes x = Check.farm("F" + FIVE_VEGETABLES);
        Check.same("vegetables", x.about(1), 5);
        Check.same("the last one", x.vegetable(4, 0), 40);
        error("F" + FIVE_VEGETABLES + "v", 16);
        error("F" + FIVE_VEGETABLES + "v00", 16);
    }

    private static void likings() {
        for (int told = 1; told <= 6; told++) {
            allowed(SIX_HOUSES.substring(0, 1 + 3 * told) + "v00l", DIGITS.substring(0, told));
        }
        for (int told = 1; told <= 5; told++) {
            allowed("Fh10" + FIVE_VEGETABLES.substring(0, 3 * told) + "l0", DIGITS.substring(0, told));
        }
        allowed("Fh10v00l00", DIGITS);
        allowed(SIX_HOUSES + FIVE_VEGETABLES + "l54", DIGITS);
        for (int liking = 0; liking <= 9; liking++) {
            HarvestBoxes x = Check.farm(SIX_HOUSES + FIVE_VEGETABLES + "l54" + liking + "l00" + (9 - liking));
            Check.same("of the last house for the last vegetable", x.liking(5, 4), liking);
            Check.same("of the first house for the first vegetable", x.liking(0, 0), 9 - liking);
            Check.same("one that is not told", x.liking(4, 4), 5);
        }
        error("Fh10v00l100h10", 8);
        error("Fh10v00l010v00", 9);
    }

    private static void laterLikings() {
        HarvestBoxes x = Check.farm("Fh10v00l009l000h20l001l102l103");
        Check.same("the last of three", x.liking(0, 0), 1);
        Check.same("the last of two", x.liking(1, 0), 3);
        Check.same("the same again", Check.farm("Fh10v00l007l007").liking(0, 0), 7);
        Check.same("back to the first one", Check.farm("Fh10v00l009l005").liking(0, 0), 5);
    }

    private static void skips() {
        for (int told = 1; told <= 6; told++) {
            allowed(SIX_HOUSES.substring(0, 1 + 3 * told) + "s", DIGITS.substring(0, told));
        }
        HarvestBoxes x = Check.farm(SIX_HOUSES + "s0s5s0");
        int[] due = {1, 0, 0, 0, 0, 1};
        for (int h = 0; h < due.length; h++) {
            Check.same("house " + h + " skips", x.house(h, 3), due[h]);
        }
        error("Fh10s1h10", 5);
    }

    private static void placesOfLikings() {
        allowed("Fh10", "hvs");
        allowed("Fv00", "hv");
        allowed("Fh10v00", "hvls");
        allowed("Fv00h10", "hvls");
        allowed("Fv00h10s0", "hvls");
        allowed("Fv00h10l000", "hvls");
        error("Fl000", 1);
        error("Fh10l000v00", 4);
        error("Fv00l000h10", 4);
    }

    private static void placesOfSkips() {
        allowed("F", "hv");
        allowed("Fv00", "hv");
        allowed("Fh10", "hvs");
        allowed("Fh10s0", "hvs");
        error("Fs0h10", 1);
        error("Fv00s0h10", 4);
        error("Fh10s0h10s0s1v00s0l000s1", NONE);
    }

    private static void blanks() {
        error(" Fh10", 0);
        error("F h10", 1);
        error("Fh 10", 2);
        error("Fh1 0", 3);
        error("Fh10 ", 4);
        error("Fh10v 40", 5);
        error("Fh10v4 0", 6);
        error("Fh10v40l 000", 8);
        error("Fh10v40s 0", 8);
    }

    private static void leftToRight() {
        error("01hF", 0);
        error("h10F", 0);
        error("Fl000v00h10", 1);
        error("F0s01h", 1);
        error("Fh01", 2);
        error("Fh10h0010vF", 5);
        HarvestBoxes x = Check.farm("Fh12v03h34v21");
        Check.same("the house on the left", x.house(0, 0), 1);
        Check.same("its crates on the right", x.house(0, 1), 2);
        Check.same("the house on the right", x.house(1, 0), 3);
        Check.same("the vegetable on the left", x.vegetable(0, 0), 3);
        Check.same("the vegetable on the right", x.vegetable(1, 0), 21);
    }

    private static void firstOfSeveral() {
        error("xF", 0);
        error("Fx", 1);
        error("Fh5h5", 2);
        error("Fh10v41h55", 6);
        error("Fh10v40l00xs9", 10);
        error("Fh10v40x" + "h".repeat(112), 7);
        error(ALMOST_FULL + "sx", LONGEST - 1);
        error(ALMOST_FULL + "xx", LONGEST - 2);
    }

    private static void firstDigits() {
        error("Fv5", 2);
        error("Fv50", 2);
        error("Fv41", 3);
        error("Fv49", 3);
        error("Fv40", NONE);
        error("Fv4", 3);
        error("Fv39", NONE);
        error("Fh0", 2);
        error("Fh00", 2);
        error("Fh5", 2);
    }

    private static void endsTooSoon() {
        String whole = "Fh10v40l009s0";
        for (int length = 0; length <= whole.length(); length++) {
            error(whole.substring(0, length), partEnds(length) ? NONE : length);
        }
        String full = "Fh10v00" + "l005".repeat(28) + "s";
        Check.same("a text that is full too soon", full.length(), LONGEST);
        error(full, LONGEST);
    }

    /** The lengths at which a part of that text ends. */
    private static boolean partEnds(int length) {
        return length == 1 || length == 4 || length == 7 || length == 11 || length == 13;
    }

    private static void appends() {
        HarvestBoxes x = Check.farm("Fh10v07");
        Check.changes(x, "append of the first sign of a part", () -> x.append('l'), "errorPosition()=8");
        Check.changes(x, "append of the next one", () -> x.append('0'), "errorPosition()=9");
        Check.changes(x, "append of one that is not allowed", () -> x.append('1'));
        Check.changes(x, "append of one behind it", () -> x.append('1'));
        Check.same("all are there", x.clearText(), 11);
    }

    private static void codes() {
        HarvestBoxes x = new HarvestBoxes();
        Check.same("the least code", x.append(0), 1);
        Check.same("the greatest code", x.append(255), 2);
        HarvestBoxes all = new HarvestBoxes();
        for (int c = 0; c < SIGNS; c++) {
            if (c % LONGEST == 0) {
                all.clearText();
            }
            Check.same("append(" + c + ")", all.append(c), c % LONGEST + 1);
        }
        error("Fh10" + (char) 0, 4);
        error("Fh10" + (char) 255, 4);
        error((char) ('F' + 128) + "h10", 0);
    }

    private static void lengths() {
        HarvestBoxes x = new HarvestBoxes();
        for (int length = 1; length <= LONGEST; length++) {
            Check.same("append", x.append('F'), length);
        }
        x.clearText();
        Check.same("append behind clearText", x.append('F'), 1);
    }

    private static void codesOutOfRange() {
        for (int c : new int[] {-1, 256, Integer.MIN_VALUE, Integer.MAX_VALUE}) {
            Twins.refuseAlways("append(" + c + ")", BAD_ARGUMENT, x -> x.append(c));
        }
    }

    private static void appendToFullText() {
        Check.same("the 120th", Check.withText(ALMOST_FULL + "s").append('0'), LONGEST);
        Twins.refuse(Twins::full, "append to 120 characters", BAD_STATE, x -> x.append('F'));
        Twins.refuse(() -> Check.withText(ALMOST_FULL + "sx"), "append to what is no farm", BAD_STATE, x -> x.append('F'));
    }

    private static void emptied() {
        HarvestBoxes x = Check.withText(ALMOST_FULL + "s0");
        x.clearText();
        Check.same("the text is empty", x.errorPosition(), 0);
        Check.same("there is room again", x.append('F'), 1);
        Check.same("nothing of it is left", x.errorPosition(), NONE);
        HarvestBoxes y = Twins.full();
        y.clearText();
        Check.write(y, Twins.FULL_TEXT);
        Check.same("the farm, the states and the slots stay", y.undo(), 13);
        Check.same("slot 1", y.restore(1), 1);
        Check.same("slot 0", y.restore(0), 0);
    }

    private static void previousLengths() {
        HarvestBoxes x = new HarvestBoxes();
        Check.same("of no text", x.clearText(), 0);
        x.append('F');
        Check.same("of one character", x.clearText(), 1);
        Check.same("of no text again", x.clearText(), 0);
        Check.same("of a full text", Check.withText(ALMOST_FULL + "s0").clearText(), LONGEST);
    }

    private static void checksAlone() {
        Twins.keepAlways("errorPosition", x -> x.errorPosition());
        HarvestBoxes x = Check.withText("Fh10");
        Check.same("first", x.errorPosition(), NONE);
        Check.same("nothing is loaded", x.about(0), 0);
        Check.same("again", x.errorPosition(), NONE);
    }

    private static void positions() {
        error("", 0);
        error("F", NONE);
        error("G", 0);
        error(ALMOST_FULL, NONE);
        error(ALMOST_FULL + "s0", NONE);
        error(ALMOST_FULL + "s1", NONE);
        error(ALMOST_FULL + "s2", LONGEST - 1);
        error(ALMOST_FULL + "s", LONGEST - 1);
    }

    private static void replaced() {
        HarvestBoxes x = Twins.full();
        Check.write(x, "F");
        x.load();
        HarvestBoxes least = Check.farm("F");
        Check.same("by the least farm", Check.pictureOf(x), Check.pictureOf(least));
        HarvestBoxes y = Check.farm("Fh49v40l000s0");
        Check.write(y, Twins.FULL_TEXT);
        y.load();
        Check.same("by the greatest farm", Check.pictureOf(y), Check.pictureOf(Check.farm(Twins.FULL_TEXT)));
        replacedOnTheWhole();
        HarvestBoxes again = Twins.full();
        again.load();
        Check.same("by the same farm again", Check.pictureOf(again), Check.pictureOf(Check.farm(Twins.FULL_TEXT)));
    }

    /** Each house and each vegetable, the first and the last ones too, is as the text tells it, whatever was tried before. */
    private static void replacedOnTheWhole() {
        String plain = "Fh10h10h10h10h10h10v40v40v40v40v40";
        String fresh = Check.pictureOf(Check.farm(plain));
        String marks = plain + "s0s1s2s3s4s5";
        String likings = plain + "l009l048l101l242l317l428l500l549";
        String crates = "Fh49h49h49h49h49h49v00v01v02v03v04";
        for (String other : new String[] {plain, marks, likings, crates}) {
            HarvestBoxes tried = Check.farm(other);
            tried.wouldGet(5, 4);
            tried.wouldBe(0);
            Check.write(tried, plain);
            tried.load();
            Check.same("behind what would be of " + other, Check.pictureOf(tried), fresh);
            HarvestBoxes packed = Check.farm(other);
            packed.pack();
            Check.write(packed, plain);
            packed.load();
            Check.same("behind a week of " + other, Check.pictureOf(packed), fresh);
            HarvestBoxes checked = Check.withText(other);
            checked.errorPosition();
            Check.write(checked, plain);
            checked.load();
            Check.same("behind the check of " + other, Check.pictureOf(checked), fresh);
        }
    }

    private static void accountsOfLoaded() {
        HarvestBoxes x = Check.farm("Fh10h20v07v40l000l100s1");
        x.pack();
        x.give(0, 1, 40);
        x.setHarvest(0, 8);
        x.skip(1, true);
        x.pack();
        x.setHarvest(0, 9);
        x.pack();
        Check.holds("weeks, eaten, given and composted kilos before",
                x.about(2) == 3 && x.about(4) > 0 && x.about(5) == 40 && x.about(6) > 0);
        x.load();
        for (int what = 2; what <= 6; what++) {
            Check.same("about(" + what + ")", x.about(what), 0);
        }
        Check.same("swaps of the last week", x.about(8), 0);
        Check.same("composted of vegetable 0", x.vegetable(0, 2), 0);
        Check.same("credit of house 1", x.house(1, 2), 0);
        HarvestBoxes tried = Check.farm("Fh10v07v40l000s0");
        Check.same("what would be in no box", tried.wouldGet(0, 0), 0);
        tried.load();
        Check.same("what would be composted", tried.about(6), 0);
    }

    private static void loadForgets() {
        HarvestBoxes one = Check.farm("Fh10");
        one.addHouse(1);
        one.load();
        Check.fails("undo behind one action and a load", BAD_STATE, () -> one.undo());
        HarvestBoxes all = Twins.full();
        all.load();
        Check.fails("undo behind 14 remembered states and a load", BAD_STATE, () -> all.undo());
        all.skip(0, true);
        Check.same("one state again", all.undo(), 0);
        Check.fails("and no more", BAD_STATE, () -> all.undo());
    }

    private static void loadEmptiesSlots() {
        for (int slot = 0; slot < 2; slot++) {
            int one = slot;
            HarvestBoxes x = Twins.full();
            x.load();
            Check.fails("restore(" + slot + ") behind a load", BAD_STATE, () -> x.restore(one));
            x.save(slot);
            Check.same("restore behind load and save", x.restore(slot), 0);
            Check.fails("the other one stays empty", BAD_STATE, () -> x.restore(1 - one));
        }
    }

    private static void loadKeepsText() {
        HarvestBoxes x = Check.farm("Fh10");
        Check.same("loaded twice", x.load(), 1);
        Check.same("it goes on", x.append('s'), 5);
        Check.same("as it was", x.errorPosition(), 5);
        Check.same("a full text", Check.farm(ALMOST_FULL + "s0").clearText(), LONGEST);
        Check.same("the least text", Check.farm("F").clearText(), 1);
    }

    private static void loadedHouses() {
        Check.same("none", Check.withText("F").load(), 0);
        Check.same("none, but vegetables", Check.withText("F" + FIVE_VEGETABLES).load(), 0);
        Check.same("one", Check.withText("Fh10").load(), 1);
        Check.same("six", Check.withText(SIX_HOUSES + FIVE_VEGETABLES).load(), 6);
    }

    private static void loadRefuses() {
        Twins.refuse(Twins::nothing, "load of an empty text", BAD_STATE, x -> x.load());
        Twins.refuse(Twins::some, "load of a text that ends too soon", BAD_STATE, x -> x.load());
        for (String text : new String[] {"f", "Fh", "Fh1", "Fh50", "Fv41", "Fh10v00l", "Fh10s1", "Fh10 ", ALMOST_FULL + "s",
            ALMOST_FULL + "s2"}) {
            Twins.refuse(() -> withOtherText(text), "load of " + text, BAD_STATE, x -> x.load());
        }
    }

    private static HarvestBoxes withOtherText(String text) {
        HarvestBoxes x = Twins.some();
        Check.write(x, text);
        return x;
    }
}
