import java.util.function.IntUnaryOperator;

/** The edges of promises 6 to 11: what there is. */
final class EdgesOfAsking {
    private static final Class<IllegalArgumentException> BAD_ARGUMENT = IllegalArgumentException.class;
    private static final Class<IndexOutOfBoundsException> NOT_THERE = IndexOutOfBoundsException.class;
    private static final int NONE = HarvestBoxes.NONE;
    private static final int MIN = Integer.MIN_VALUE;
    private static final int MAX = Integer.MAX_VALUE;
    private static final String SIX = "Fh10h10h10h10h10h10";

    private EdgesOfAsking() {
    }

    static void all() {
        promise6();
        promise7();
        promise8();
        Doc.in("Promise 9");
        Doc.edge("`int box(int h, int v) throws IndexOutOfBoundsException`: Returns what is in a box. - `h`: house - `v`: "
                + "vegetable", EdgesOfAsking::boxesOfTwoWeeks);
        Doc.edge("Returns the kilos of this vegetable in the box of this house.", EdgesOfAsking::kilosOfBoxes);
        Doc.edge("Throws `IndexOutOfBoundsException` if there is no such house or vegetable", EdgesOfAsking::noSuchBox);
        Doc.in("Promise 10");
        Doc.edge("`int liking(int h, int v) throws IndexOutOfBoundsException`: Returns a liking. - `h`: house - `v`: vegetable",
                EdgesOfAsking::likingsOfTwoWeeks);
        Doc.edge("Returns the liking of this house for this vegetable.", EdgesOfAsking::likings);
        Doc.edge("Throws `IndexOutOfBoundsException` if there is no such house or vegetable", EdgesOfAsking::noSuchLiking);
        promise11();
    }

    private static void promise6() {
        Doc.in("Promise 6");
        Doc.plain("`int about(int what) throws IllegalArgumentException`: Returns a number. - `what`:");
        Doc.edge("0: the number of houses;", EdgesOfAsking::numberOfHouses);
        Doc.edge("1: of vegetables;", EdgesOfAsking::numberOfVegetables);
        Doc.edge("2: of weeks that were packed;", EdgesOfAsking::numberOfWeeks);
        Doc.edge("3: the kilos in all boxes;", EdgesOfAsking::kilosInAllBoxes);
        Doc.edge("4: those that were eaten;", EdgesOfAsking::kilosEaten);
        Doc.edge("5: given away;", EdgesOfAsking::kilosGiven);
        Doc.edge("6: composted;", EdgesOfAsking::kilosComposted);
        Doc.edge("7: the crates that are owed by all houses together;", EdgesOfAsking::cratesOfAll);
        Doc.edge("8: the swaps that were made in the last week that was packed (0 if there is none);",
                EdgesOfAsking::swapsOfLastWeek);
        Doc.edge("9: the houses that would get a box next week", EdgesOfAsking::housesWithBox);
        Doc.edge("Returns that number.", EdgesOfAsking::numbersOfTwoWeeks);
        Doc.edge("Throws `IllegalArgumentException` if what is not 0 to 9", EdgesOfAsking::noSuchNumber);
    }

    private static void promise7() {
        Doc.in("Promise 7");
        Doc.plain("`int house(int h, int what) throws IndexOutOfBoundsException, IllegalArgumentException`: Returns a number of a "
                + "house. - `h`: house - `what`:");
        Doc.edge("0: its size;", EdgesOfAsking::sizeOfHouse);
        Doc.edge("1: the crates that it owes;", EdgesOfAsking::cratesOfHouse);
        Doc.edge("2: its credit;", EdgesOfAsking::creditOfHouse);
        Doc.edge("3: 1 if it skips the next week, otherwise 0;", EdgesOfAsking::markOfHouse);
        Doc.edge("4: the kilos in its box;", EdgesOfAsking::kilosOfHouse);
        Doc.edge("5: its happiness, the sum of its likings for all kilos in its box;", EdgesOfAsking::happiness);
        Doc.edge("6: 1 if it would get a box next week, otherwise 0", EdgesOfAsking::boxNextWeek);
        Doc.edge("Returns that number.", EdgesOfAsking::housesOfTwoWeeks);
        Doc.edge("Throws `IndexOutOfBoundsException` if there is no such house", EdgesOfAsking::noSuchHouse);
        Doc.edge("Throws `IllegalArgumentException` if what is not 0 to 6", EdgesOfAsking::noSuchNumberOfHouse);
    }

    private static void promise8() {
        Doc.in("Promise 8");
        Doc.plain("`int vegetable(int v, int what) throws IndexOutOfBoundsException, IllegalArgumentException`: Returns a number "
                + "of a vegetable. - `v`: vegetable - `what`:");
        Doc.edge("0: its harvest for the next week;", EdgesOfAsking::harvestOfVegetable);
        Doc.edge("1: the kilos of it in all boxes;", EdgesOfAsking::kilosOfVegetable);
        Doc.edge("2: the kilos of it that were composted so far;", EdgesOfAsking::compostOfVegetable);
        Doc.edge("3: the house that likes it most, the lowest of several,", EdgesOfAsking::likesItMost);
        Doc.edge("NONE without houses", EdgesOfAsking::nobodyLikesIt);
        Doc.edge("Returns that number.", EdgesOfAsking::vegetablesOfTwoWeeks);
        Doc.edge("Throws `IndexOutOfBoundsException` if there is no such vegetable", EdgesOfAsking::noSuchVegetable);
        Doc.edge("Throws `IllegalArgumentException` if what is not 0 to 3", EdgesOfAsking::noSuchNumberOfVegetable);
    }

    private static void promise11() {
        Doc.in("Promise 11");
        Doc.edge("`int order(int place) throws IllegalArgumentException`: Returns the houses in the order of their happiness.",
                EdgesOfAsking::orderOfTwoWeeks);
        Doc.edge("- `place`: 0 or more", EdgesOfAsking::places);
        Doc.edge("Returns the house with this place, from 0, when those with a greater happiness are first,",
                EdgesOfAsking::happiestFirst);
        Doc.edge("of several the lowest one;", EdgesOfAsking::lowestFirst);
        Doc.edge("NONE if there are not so many.", EdgesOfAsking::notSoMany);
        Doc.edge("Throws `IllegalArgumentException` if place is negative", EdgesOfAsking::negativePlaces);
    }

    /**
     * A week of houses 1 and 2, in which 13 and 7 kilos become 6 and 2 for house 1, 7 and 5 for house 2, and by two swaps
     * 8 and 0, 5 and 7; house 2 gives 3 away. The second week will be one of house 0, with a credit of 1, and house 2: two
     * and three parts of 30 and 4 kilos, the last one of which nobody likes.
     */
    static HarvestBoxes beforeTheSecondWeek() {
        HarvestBoxes x = packed("Fh10h22h31v13v07l001l110l219s0");
        x.give(2, 1, 3);
        x.setLiking(0, 1, 0);
        x.setLiking(2, 1, 0);
        x.setHarvest(0, 30);
        x.setHarvest(1, 4);
        return x;
    }

    private static HarvestBoxes twoWeeks() {
        HarvestBoxes x = beforeTheSecondWeek();
        x.pack();
        return x;
    }

    private static void numbersAre(String what, IntUnaryOperator call, int... due) {
        for (int i = 0; i < due.length; i++) {
            Check.same(what + ", number " + i, call.applyAsInt(i), due[i]);
        }
    }

    private static void numbersOfTwoWeeks() {
        HarvestBoxes first = beforeTheSecondWeek();
        numbersAre("about the first week", what -> first.about(what), 3, 2, 1, 17, 0, 3, 0, 5, 2, 2);
        HarvestBoxes x = twoWeeks();
        numbersAre("about both weeks", what -> x.about(what), 3, 2, 2, 33, 17, 3, 1, 7, 0, 1);
    }

    private static void housesOfTwoWeeks() {
        HarvestBoxes first = beforeTheSecondWeek();
        numbersAre("house 0", what -> first.house(0, what), 1, 0, 1, 0, 0, 0, 1);
        numbersAre("house 1", what -> first.house(1, what), 2, 3, 0, 0, 8, 40, 0);
        numbersAre("house 2", what -> first.house(2, what), 3, 2, 0, 0, 9, 25, 1);
        HarvestBoxes x = twoWeeks();
        numbersAre("house 0 then", what -> x.house(0, what), 1, 1, 0, 0, 13, 12, 1);
        numbersAre("house 1 then", what -> x.house(1, what), 2, 3, 0, 0, 0, 0, 0);
        numbersAre("house 2 then", what -> x.house(2, what), 3, 3, 0, 0, 20, 90, 0);
    }

    private static void vegetablesOfTwoWeeks() {
        HarvestBoxes first = beforeTheSecondWeek();
        numbersAre("vegetable 0", what -> first.vegetable(0, what), 30, 13, 0, 1);
        numbersAre("vegetable 1", what -> first.vegetable(1, what), 4, 4, 0, 0);
        HarvestBoxes x = twoWeeks();
        numbersAre("vegetable 0 then", what -> x.vegetable(0, what), 0, 30, 0, 1);
        numbersAre("vegetable 1 then", what -> x.vegetable(1, what), 0, 3, 1, 0);
    }

    private static void boxesOfTwoWeeks() {
        Check.boxes(beforeTheSecondWeek(), "of the first week", new int[][] {{0, 0}, {8, 0}, {5, 4}});
        Check.boxes(twoWeeks(), "of the second week", new int[][] {{12, 1}, {0, 0}, {18, 2}});
    }

    private static void likingsOfTwoWeeks() {
        HarvestBoxes first = packed("Fh10h22h31v13v07l001l110l219s0");
        numbersAre("for vegetable 0", h -> first.liking(h, 0), 1, 5, 5);
        numbersAre("for vegetable 1", h -> first.liking(h, 1), 5, 0, 9);
        HarvestBoxes x = twoWeeks();
        numbersAre("for vegetable 0 then", h -> x.liking(h, 0), 1, 5, 5);
        numbersAre("for vegetable 1 then", h -> x.liking(h, 1), 0, 0, 0);
    }

    private static void orderOfTwoWeeks() {
        orderIs(beforeTheSecondWeek(), "40, 25 and 0", 1, 2, 0, NONE);
        orderIs(twoWeeks(), "90, 12 and 0", 2, 0, 1, NONE);
    }

    private static HarvestBoxes packed(String text) {
        HarvestBoxes x = Check.farm(text);
        x.pack();
        return x;
    }

    private static void aboutIs(String when, HarvestBoxes x, int what, int due) {
        Check.same("about(" + what + ") " + when, x.about(what), due);
    }

    private static void numberOfHouses() {
        HarvestBoxes x = new HarvestBoxes();
        aboutIs("of nothing", x, 0, 0);
        for (int h = 1; h <= 6; h++) {
            x.addHouse(1);
            aboutIs("behind addHouse", x, 0, h);
        }
        x.undo();
        aboutIs("behind undo", x, 0, 5);
        aboutIs("of a full text", Check.farm(Twins.FULL_TEXT), 0, 6);
    }

    private static void numberOfVegetables() {
        HarvestBoxes x = new HarvestBoxes();
        aboutIs("of nothing", x, 1, 0);
        for (int v = 1; v <= 5; v++) {
            x.addVegetable(0);
            aboutIs("behind addVegetable", x, 1, v);
        }
        x.undo();
        aboutIs("behind undo", x, 1, 4);
        aboutIs("of a full text", Check.farm(Twins.FULL_TEXT), 1, 5);
    }

    private static void numberOfWeeks() {
        HarvestBoxes x = Check.farm("Fh10");
        aboutIs("at first", x, 2, 0);
        x.pack();
        aboutIs("behind pack", x, 2, 1);
        x.simulate(1, 30);
        x.wouldBe(0);
        x.runScript(1, 4000);
        aboutIs("behind what only would be", x, 2, 1);
        x.undo();
        aboutIs("behind undo", x, 2, 0);
    }

    private static void kilosInAllBoxes() {
        HarvestBoxes x = Check.farm(SIX + "v40v40v40v40v40");
        aboutIs("at first", x, 3, 0);
        x.pack();
        aboutIs("at most", x, 3, 200);
        x.give(5, 4, 1);
        aboutIs("behind give", x, 3, 199);
        x.pack();
        aboutIs("behind a week without a harvest", x, 3, 0);
        aboutIs("of a kilo in the last box", packed("Fh10h10v01l000"), 3, 1);
    }

    private static void kilosEaten() {
        HarvestBoxes x = packed("Fh10v40v40v40v40v40");
        aboutIs("in the first week", x, 4, 0);
        x.give(0, 0, 40);
        aboutIs("behind give", x, 4, 0);
        x.pack();
        aboutIs("of the first week", x, 4, 160);
        x.setHarvest(4, 1);
        x.pack();
        aboutIs("of two weeks", x, 4, 160);
        x.pack();
        aboutIs("of three weeks", x, 4, 161);
    }

    private static void kilosGiven() {
        HarvestBoxes x = packed("Fh10v40v40");
        aboutIs("at first", x, 5, 0);
        x.give(0, 1, 1);
        aboutIs("one", x, 5, 1);
        x.give(0, 0, 40);
        aboutIs("41", x, 5, 41);
        x.pack();
        aboutIs("behind a week", x, 5, 41);
        Check.fails("give of what is not there", IllegalStateException.class, () -> x.give(0, 0, 1));
        aboutIs("behind a call that throws", x, 5, 41);
    }

    private static void kilosComposted() {
        HarvestBoxes x = Check.farm("Fv40v40v40v40v39");
        aboutIs("at first", x, 6, 0);
        x.pack();
        aboutIs("of all five", x, 6, 199);
        x.pack();
        aboutIs("behind a week without a harvest", x, 6, 199);
        x.setHarvest(4, 1);
        x.pack();
        aboutIs("one more", x, 6, 200);
        aboutIs("of a glut", packed("Fh10h10v07l000l100"), 6, 1);
    }

    private static void cratesOfAll() {
        aboutIs("without houses", new HarvestBoxes(), 7, 0);
        aboutIs("at least", Check.farm(SIX), 7, 0);
        HarvestBoxes x = Check.farm("Fh19h19h19h19h19h19");
        aboutIs("at most", x, 7, 54);
        x.returnCrates(5, 9);
        aboutIs("behind returnCrates", x, 7, 45);
        x.pack();
        aboutIs("behind a week", x, 7, 46);
    }

    private static void swapsOfLastWeek() {
        HarvestBoxes x = Check.farm("Fh10h10v04v04l009l011l101l119");
        aboutIs("without a week", x, 8, 0);
        x.pack();
        aboutIs("of the first week", x, 8, 2);
        x.setHarvest(0, 2);
        x.setHarvest(1, 2);
        aboutIs("before the next week", x, 8, 2);
        x.pack();
        aboutIs("of the last week alone", x, 8, 1);
        x.pack();
        aboutIs("of a week without any", x, 8, 0);
        x.undo();
        aboutIs("behind undo", x, 8, 1);
    }

    private static void housesWithBox() {
        aboutIs("without houses", new HarvestBoxes(), 9, 0);
        aboutIs("six", Check.farm(SIX), 9, 6);
        aboutIs("those with 0, 1 and 2 crates", Check.farm("Fh10h11h12h13h14h19"), 9, 3);
        aboutIs("without those that skip", Check.farm(SIX + "s0s5"), 9, 4);
        aboutIs("nobody", Check.farm("Fh13h10s1"), 9, 0);
        HarvestBoxes x = packed("Fh12h10s1");
        aboutIs("behind a week", x, 9, 1);
        x.returnCrates(0, 1);
        aboutIs("behind returnCrates", x, 9, 2);
    }

    private static void noSuchNumber() {
        for (int what : new int[] {-1, 10, MIN, MAX}) {
            Twins.refuseAlways("about(" + what + ")", BAD_ARGUMENT, x -> x.about(what));
        }
        for (int what = 0; what <= 9; what++) {
            int one = what;
            Twins.keepAlways("about(" + what + ")", x -> x.about(one));
        }
    }

    private static void sizeOfHouse() {
        HarvestBoxes x = Check.farm("Fh19h20h30h40");
        for (int h = 0; h < 4; h++) {
            Check.same("size of house " + h, x.house(h, 0), h + 1);
        }
        x.skip(3, true);
        x.pack();
        Check.same("a credit is no size", x.house(3, 0), 4);
    }

    private static void cratesOfHouse() {
        HarvestBoxes x = Check.farm("Fh10h11h12h13h18h19");
        int[] due = {0, 1, 2, 3, 8, 9};
        for (int h = 0; h < due.length; h++) {
            Check.same("crates of house " + h, x.house(h, 1), due[h]);
        }
        x.returnCrates(5, 9);
        Check.same("crates of house 5 behind returnCrates", x.house(5, 1), 0);
    }

    private static void creditOfHouse() {
        HarvestBoxes x = Check.farm("Fh40h10s0");
        Check.same("at first", x.house(0, 2), 0);
        x.pack();
        Check.same("of the one that skipped", x.house(0, 2), 4);
        Check.same("of the other one", x.house(1, 2), 0);
        x.skip(0, true);
        x.pack();
        x.skip(0, true);
        x.pack();
        Check.same("at most", x.house(0, 2), 9);
    }

    private static void markOfHouse() {
        HarvestBoxes x = Check.farm("Fh10h13s1");
        Check.same("it does not skip", x.house(0, 3), 0);
        Check.same("it skips, though it owes 3", x.house(1, 3), 1);
        x.skip(0, true);
        x.skip(1, false);
        Check.same("it skips then", x.house(0, 3), 1);
        Check.same("it skips no more, though it gets no box", x.house(1, 3), 0);
    }

    private static void kilosOfHouse() {
        HarvestBoxes x = Check.farm("Fh10h13v40v40v40v40v40");
        Check.same("at first", x.house(0, 4), 0);
        x.pack();
        Check.same("at most", x.house(0, 4), 200);
        Check.same("of the one without a box", x.house(1, 4), 0);
        x.give(0, 4, 40);
        Check.same("behind give", x.house(0, 4), 160);
    }

    private static void happiness() {
        HarvestBoxes x = Check.farm("Fh10h13v40v40v40v40v40l009l019l029l039l049");
        Check.same("of an empty box", x.house(0, 5), 0);
        x.pack();
        Check.same("at most", x.house(0, 5), 200 * 9);
        Check.same("of the one without a box", x.house(1, 5), 0);
        x.setLiking(0, 4, 0);
        Check.same("with the likings as they are now", x.house(0, 5), 160 * 9);
        x.give(0, 3, 1);
        Check.same("with the kilos as they are now", x.house(0, 5), 159 * 9);
        for (int v = 0; v < 4; v++) {
            x.setLiking(0, v, 0);
        }
        Check.same("at least", x.house(0, 5), 0);
    }

    private static void boxNextWeek() {
        HarvestBoxes x = Check.farm("Fh12h13h10h19s2s3");
        int[] due = {1, 0, 0, 0};
        for (int h = 0; h < due.length; h++) {
            Check.same("house " + h, x.house(h, 6), due[h]);
        }
        x.pack();
        int[] then = {0, 0, 1, 0};
        for (int h = 0; h < then.length; h++) {
            Check.same("house " + h + " a week later", x.house(h, 6), then[h]);
        }
    }

    private static void noSuchHouse() {
        for (int h : new int[] {-1, 6, MIN, MAX}) {
            Twins.refuseAlways("house(" + h + ", 0)", NOT_THERE, x -> x.house(h, 0));
        }
        Twins.refuse(Twins::nothing, "house(0, 0)", NOT_THERE, x -> x.house(0, 0));
        Twins.refuse(Twins::some, "house(3, 0)", NOT_THERE, x -> x.house(3, 0));
        Check.same("the last house", Twins.full().house(5, 0), 2);
        Check.same("the last house of some", Twins.some().house(2, 1), 3);
    }

    private static void noSuchNumberOfHouse() {
        for (int what : new int[] {-1, 7, MIN, MAX}) {
            Twins.refuse(Twins::some, "house(0, " + what + ")", BAD_ARGUMENT, x -> x.house(0, what));
            Twins.refuse(Twins::full, "house(5, " + what + ")", BAD_ARGUMENT, x -> x.house(5, what));
        }
        for (int what = 0; what <= 6; what++) {
            int one = what;
            Twins.keep(Twins::full, "house(5, " + what + ")", x -> x.house(5, one));
        }
    }

    private static void harvestOfVegetable() {
        HarvestBoxes x = Check.farm("Fh10v00v40v07");
        int[] due = {0, 40, 7};
        for (int v = 0; v < due.length; v++) {
            Check.same("harvest of vegetable " + v, x.vegetable(v, 0), due[v]);
        }
        x.pack();
        Check.same("behind a week", x.vegetable(1, 0), 0);
    }

    private static void kilosOfVegetable() {
        HarvestBoxes x = Check.farm(SIX + "v40v05");
        Check.same("at first", x.vegetable(0, 1), 0);
        x.pack();
        Check.same("at most", x.vegetable(0, 1), 40);
        Check.same("of the other one", x.vegetable(1, 1), 5);
        x.give(5, 0, 1);
        Check.same("behind give", x.vegetable(0, 1), 39);
        x.pack();
        Check.same("behind a week without a harvest", x.vegetable(0, 1), 0);
    }

    private static void compostOfVegetable() {
        HarvestBoxes x = Check.farm("Fv40v00v01");
        Check.same("at first", x.vegetable(0, 2), 0);
        x.pack();
        Check.same("the most in a week", x.vegetable(0, 2), 40);
        Check.same("none", x.vegetable(1, 2), 0);
        Check.same("one", x.vegetable(2, 2), 1);
        x.setHarvest(0, 40);
        x.pack();
        Check.same("of two weeks", x.vegetable(0, 2), 80);
        x.addHouse(1);
        x.setHarvest(0, 40);
        x.pack();
        Check.same("none of the third", x.vegetable(0, 2), 80);
    }

    private static void likesItMost() {
        HarvestBoxes x = Check.farm(SIX + "v00v00");
        Check.same("all alike", x.vegetable(0, 3), 0);
        x.setLiking(5, 0, 6);
        Check.same("the last one", x.vegetable(0, 3), 5);
        x.setLiking(3, 0, 6);
        Check.same("the lowest of two", x.vegetable(0, 3), 3);
        Check.same("the other vegetable", x.vegetable(1, 3), 0);
        x.setLiking(0, 1, 4);
        Check.same("the lowest of five", x.vegetable(1, 3), 1);
        for (int h = 0; h < 6; h++) {
            x.setLiking(h, 0, 0);
        }
        Check.same("also if nobody likes it", x.vegetable(0, 3), 0);
        x.skip(0, true);
        Check.same("also if it skips", x.vegetable(0, 3), 0);
        Check.same("one house", Check.farm("Fh19v00l000").vegetable(0, 3), 0);
    }

    private static void nobodyLikesIt() {
        HarvestBoxes x = Check.farm("Fv40v00v00v00v00");
        for (int v = 0; v < 5; v++) {
            Check.same("vegetable " + v + " without houses", x.vegetable(v, 3), NONE);
        }
        x.addHouse(1);
        Check.same("with one", x.vegetable(4, 3), 0);
        x.undo();
        Check.same("without it again", x.vegetable(4, 3), NONE);
    }

    private static void noSuchVegetable() {
        for (int v : new int[] {-1, 5, MIN, MAX}) {
            Twins.refuseAlways("vegetable(" + v + ", 0)", NOT_THERE, x -> x.vegetable(v, 0));
        }
        Twins.refuse(Twins::nothing, "vegetable(0, 0)", NOT_THERE, x -> x.vegetable(0, 0));
        Twins.refuse(Twins::some, "vegetable(2, 0)", NOT_THERE, x -> x.vegetable(2, 0));
        Check.same("the last vegetable", Check.farm(Twins.FULL_TEXT).vegetable(4, 0), 1);
        Check.same("the last vegetable of some", Twins.some().vegetable(1, 0), 11);
    }

    private static void noSuchNumberOfVegetable() {
        for (int what : new int[] {-1, 4, MIN, MAX}) {
            Twins.refuse(Twins::some, "vegetable(0, " + what + ")", BAD_ARGUMENT, x -> x.vegetable(0, what));
            Twins.refuse(Twins::full, "vegetable(4, " + what + ")", BAD_ARGUMENT, x -> x.vegetable(4, what));
        }
        for (int what = 0; what <= 3; what++) {
            int one = what;
            Twins.keep(Twins::full, "vegetable(4, " + what + ")", x -> x.vegetable(4, one));
        }
    }

    private static void kilosOfBoxes() {
        HarvestBoxes x = packed("Fh10h13v40v00v01");
        Check.boxes(x, "the most, none and one", new int[][] {{40, 0, 1}, {0, 0, 0}});
        x.give(0, 0, 40);
        Check.same("behind give", x.box(0, 0), 0);
        HarvestBoxes last = packed(SIX + "v00v00v00v00v40l549");
        Check.same("the last box", last.box(5, 4), 8);
        Twins.keep(Twins::full, "box(5, 4)", y -> y.box(5, 4));
    }

    private static void noSuchBox() {
        for (int far : new int[] {-1, 6, MIN, MAX}) {
            Twins.refuseAlways("box(" + far + ", 0)", NOT_THERE, x -> x.box(far, 0));
            Twins.refuseAlways("box(0, " + far + ")", NOT_THERE, x -> x.box(0, far));
        }
        Twins.refuse(Twins::nothing, "box(0, 0)", NOT_THERE, x -> x.box(0, 0));
        Twins.refuse(Twins::some, "box(3, 0)", NOT_THERE, x -> x.box(3, 0));
        Twins.refuse(Twins::some, "box(0, 2)", NOT_THERE, x -> x.box(0, 2));
        Twins.refuse(Twins::full, "box(0, 5)", NOT_THERE, x -> x.box(0, 5));
        Check.fails("a house without vegetables", NOT_THERE, () -> Check.farm("Fh10").box(0, 0));
        Check.fails("a vegetable without houses", NOT_THERE, () -> Check.farm("Fv10").box(0, 0));
    }

    private static void likings() {
        HarvestBoxes x = Check.farm(SIX + "v00v00v00v00v00l000l549l501");
        Check.same("the least", x.liking(0, 0), 0);
        Check.same("the greatest", x.liking(5, 4), 9);
        Check.same("of the same house", x.liking(5, 0), 1);
        Check.same("for the same vegetable", x.liking(4, 4), 5);
        Twins.keep(Twins::full, "liking(5, 4)", y -> y.liking(5, 4));
    }

    private static void noSuchLiking() {
        for (int far : new int[] {-1, 6, MIN, MAX}) {
            Twins.refuseAlways("liking(" + far + ", 0)", NOT_THERE, x -> x.liking(far, 0));
            Twins.refuseAlways("liking(0, " + far + ")", NOT_THERE, x -> x.liking(0, far));
        }
        Twins.refuse(Twins::nothing, "liking(0, 0)", NOT_THERE, x -> x.liking(0, 0));
        Twins.refuse(Twins::some, "liking(3, 0)", NOT_THERE, x -> x.liking(3, 0));
        Twins.refuse(Twins::some, "liking(0, 2)", NOT_THERE, x -> x.liking(0, 2));
        Twins.refuse(Twins::full, "liking(0, 5)", NOT_THERE, x -> x.liking(0, 5));
        Check.fails("a house without vegetables", NOT_THERE, () -> Check.farm("Fh10").liking(0, 0));
        Check.fails("a vegetable without houses", NOT_THERE, () -> Check.farm("Fv10").liking(0, 0));
    }

    private static void orderIs(HarvestBoxes x, String when, int... due) {
        for (int place = 0; place < due.length; place++) {
            Check.same(when + ": order(" + place + ")", x.order(place), due[place]);
        }
    }

    private static void places() {
        HarvestBoxes x = Check.farm(SIX);
        Check.same("the first place", x.order(0), 0);
        Check.same("the last place of six", x.order(5), 5);
        Check.same("one more", x.order(6), NONE);
        Check.same("the greatest number", x.order(MAX), NONE);
        Twins.keepAlways("order(0)", y -> y.order(0));
        Twins.keepAlways("order(5)", y -> y.order(5));
    }

    private static void happiestFirst() {
        HarvestBoxes x = packed("Fh10h10h10h10v04l000l109l201l308");
        orderIs(x, "9, 8, 1 and 0", 1, 3, 2, 0, NONE);
        x.give(1, 0, 1);
        orderIs(x, "8, 1, 0 and 0", 3, 2, 0, 1, NONE);
        x.setLiking(0, 0, 9);
        orderIs(x, "9, 8, 1 and 0", 0, 3, 2, 1, NONE);
    }

    private static void lowestFirst() {
        orderIs(Check.farm(SIX), "six empty boxes", 0, 1, 2, 3, 4, 5, NONE);
        HarvestBoxes x = packed(SIX + "v06l307l507l108l208");
        orderIs(x, "8, 7 and 5 twice", 1, 2, 3, 5, 0, 4, NONE);
        // As happy by two kilos as by one.
        HarvestBoxes y = packed("Fh10h20v03l006l103");
        orderIs(y, "6 by one kilo and 6 by two", 0, 1, NONE);
    }

    private static void notSoMany() {
        orderIs(new HarvestBoxes(), "no house", NONE, NONE);
        orderIs(Check.farm("Fv40"), "a vegetable alone", NONE, NONE);
        orderIs(Check.farm("Fh19s0"), "one house", 0, NONE, NONE);
        orderIs(Check.farm("Fh10h10"), "two houses", 0, 1, NONE, NONE);
        HarvestBoxes x = Check.farm("Fh10");
        x.addHouse(1);
        Check.write(x, "");
        x.errorPosition();
        orderIs(x, "two houses, whatever the text is", 0, 1, NONE);
    }

    private static void negativePlaces() {
        Twins.refuseAlways("order(-1)", BAD_ARGUMENT, x -> x.order(-1));
        Twins.refuseAlways("order of the least number", BAD_ARGUMENT, x -> x.order(MIN));
    }
}
