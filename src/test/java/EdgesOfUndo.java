import java.util.List;
import java.util.function.Consumer;

/** The edges of the section "ACTIONS AND UNDO" and of promise 20: what is remembered, and what is taken back. */
final class EdgesOfUndo {
    private static final Class<IllegalStateException> BAD_STATE = IllegalStateException.class;
    private static final int REMEMBERED = 14;
    /** One of each; on someFarm() each of them makes a difference, also in this order or the other way round. */
    private static final List<Consumer<HarvestBoxes>> ACTIONS = List.of(x -> x.addHouse(3), x -> x.addVegetable(9),
            x -> x.setHarvest(1, 9), x -> x.setLiking(1, 1, 2), x -> x.skip(0, true), x -> x.returnCrates(1, 3),
            x -> x.give(0, 0, 1), x -> x.pack());

    private EdgesOfUndo() {
    }

    static void all() {
        Doc.in("Terms");
        Doc.plain("ACTIONS AND UNDO");
        Doc.edge("The methods in the section \"actions\" change the state, which consists of everything but the text and the save "
                + "slots.", EdgesOfUndo::whatUndoLeaves);
        Doc.edge("Each call of one of them that does not throw an exception is an action, also if nothing becomes different",
                EdgesOfUndo::nothingDifferent);
        Doc.edge("(undo is none).", EdgesOfUndo::undoIsNone);
        Doc.edge("Before each action, the state is remembered.", EdgesOfUndo::eachIsRemembered);
        Doc.edge("At most 14 states are remembered;", EdgesOfUndo::fourteenStates);
        Doc.edge("when one more is remembered, the oldest one is forgotten.", EdgesOfUndo::fifteenthState);
        Doc.edge("load and restore are not actions.", EdgesOfUndo::noActions);
        sections();
        Doc.in("Promise 20");
        Doc.edge("`int undo() throws IllegalStateException`: Takes back the last action that is remembered.",
                EdgesOfUndo::takenBack);
        Doc.edge("Returns how many states are still remembered.", EdgesOfUndo::stillRemembered);
        Doc.edge("Throws `IllegalStateException` if none is remembered", EdgesOfUndo::noneRemembered);
    }

    /** The section "actions" has the calls that are remembered; those of the other sections are not. */
    private static void sections() {
        Doc.edge("Ahead of the calls `append`, `clearText`, `errorPosition`, `load` the interface says: ---- text.",
                EdgesOfUndo::sectionOfText);
        Doc.edge("Ahead of the calls `about`, `house`, `vegetable`, `box`, `liking`, `order` the interface says: ---- what there "
                + "is.", EdgesOfUndo::sectionOfAsking);
        Doc.edge("Ahead of the calls `addHouse`, `addVegetable`, `setHarvest`, `setLiking`, `skip`, `pack`, `returnCrates`, "
                + "`give`, `undo` the interface says: ---- actions.", EdgesOfUndo::sectionOfActions);
        Doc.edge("Ahead of the calls `runScript`, `simulate` the interface says: ---- scripts, simulations.",
                EdgesOfUndo::sectionOfScripts);
        Doc.edge("Ahead of the calls `save`, `restore` the interface says: ---- save slots.", EdgesOfUndo::sectionOfSlots);
    }

    /** Behind the call undo takes back what was done before it. */
    private static void isNotRemembered(String what, Consumer<HarvestBoxes> call) {
        HarvestBoxes x = someFarm();
        x.setHarvest(0, 12);
        call.accept(x);
        Check.same("undo behind " + what, x.undo(), 0);
        Check.same("the harvest before " + what, x.vegetable(0, 0), 11);
        Check.fails("one more undo behind " + what, BAD_STATE, () -> x.undo());
    }

    private static void sectionOfText() {
        isNotRemembered("append", x -> x.append('s'));
        isNotRemembered("clearText", x -> x.clearText());
        isNotRemembered("errorPosition", x -> x.errorPosition());
        HarvestBoxes loaded = someFarm();
        loaded.setHarvest(0, 12);
        loaded.load();
        Check.fails("undo behind load", BAD_STATE, () -> loaded.undo());
    }

    private static void sectionOfAsking() {
        isNotRemembered("about", x -> x.about(0));
        isNotRemembered("house", x -> x.house(0, 0));
        isNotRemembered("vegetable", x -> x.vegetable(0, 0));
        isNotRemembered("box", x -> x.box(0, 0));
        isNotRemembered("liking", x -> x.liking(0, 0));
        isNotRemembered("order", x -> x.order(0));
    }

    private static void sectionOfActions() {
        Check.same("the actions but undo", ACTIONS.size(), 8);
        for (int kind = 0; kind < ACTIONS.size(); kind++) {
            HarvestBoxes x = someFarm();
            x.setHarvest(0, 12);
            ACTIONS.get(kind).accept(x);
            Check.same("undo behind action " + kind, x.undo(), 1);
            Check.same("and what was done before it", x.vegetable(0, 0), 12);
            Check.same("undo of undo behind action " + kind, x.undo(), 0);
        }
    }

    private static void sectionOfScripts() {
        isNotRemembered("runScript", x -> x.runScript(3, 1009_2001_4000L));
        isNotRemembered("simulate", x -> x.simulate(5, 3));
    }

    private static void sectionOfSlots() {
        isNotRemembered("save", x -> x.save(1));
        HarvestBoxes x = someFarm();
        x.save(1);
        x.setHarvest(0, 12);
        x.restore(1);
        Check.fails("undo behind restore", BAD_STATE, () -> x.undo());
    }

    /** A farm on which each of the actions can be done. */
    private static HarvestBoxes someFarm() {
        HarvestBoxes x = Check.farm("Fh10h22v12v08l009l011l101l119");
        x.pack();
        x.setHarvest(0, 11);
        x.skip(1, true);
        x.save(0);
        x.restore(0);
        return x;
    }

    private static void whatUndoLeaves() {
        for (Consumer<HarvestBoxes> action : ACTIONS) {
            HarvestBoxes x = someFarm();
            action.accept(x);
            x.append('s');
            x.save(0);
            x.save(1);
            String saved = Check.pictureOf(x);
            x.undo();
            x.restore(1);
            Check.same("undo leaves slot 1 and the text", Check.pictureOf(x), saved);
            x.restore(0);
            Check.same("undo leaves slot 0 and the text", Check.pictureOf(x), saved);
            Check.same("the text behind undo", x.clearText(), 30);
        }
    }

    private static void nothingDifferent() {
        HarvestBoxes x = Check.farm("Fh10v07s0");
        x.setHarvest(0, 7);
        x.setLiking(0, 0, 5);
        x.skip(0, true);
        x.skip(0, true);
        for (int left = 3; left >= 0; left--) {
            Check.same("states left", x.undo(), left);
            Check.same("the harvest stays", x.vegetable(0, 0), 7);
            Check.same("the mark stays", x.house(0, 3), 1);
        }
        Check.fails("then none", BAD_STATE, () -> x.undo());
        HarvestBoxes nothing = new HarvestBoxes();
        nothing.pack();
        nothing.pack();
        Check.same("a week of nothing is an action", nothing.undo(), 1);
    }

    private static void undoIsNone() {
        HarvestBoxes x = Check.farm("Fv00");
        x.setHarvest(0, 1);
        x.setHarvest(0, 2);
        x.setHarvest(0, 3);
        Check.same("undo", x.undo(), 2);
        Check.same("undo goes on backwards", x.undo(), 1);
        Check.same("to the first harvest", x.vegetable(0, 0), 1);
        x.setHarvest(0, 4);
        Check.same("what was taken back is gone", x.undo(), 1);
        Check.same("undo", x.undo(), 0);
        Check.same("to the harvest of the text", x.vegetable(0, 0), 0);
        Check.fails("undo of undo", BAD_STATE, () -> x.undo());
    }

    private static void eachIsRemembered() {
        for (int kind = 0; kind < ACTIONS.size(); kind++) {
            HarvestBoxes x = someFarm();
            String before = Check.pictureOf(x);
            ACTIONS.get(kind).accept(x);
            Check.holds("action " + kind + " makes a difference", !Check.pictureOf(x).equals(before));
            Check.same("undo of action " + kind, x.undo(), 0);
            Check.same("all is as before action " + kind, Check.pictureOf(x), before);
        }
    }

    private static HarvestBoxes withHarvestsSet(int times) {
        HarvestBoxes x = someFarm();
        for (int n = 1; n <= times; n++) {
            x.setHarvest(0, n);
        }
        return x;
    }

    private static void fourteenStates() {
        Check.same("behind 13 actions", withHarvestsSet(13).undo(), 12);
        HarvestBoxes x = withHarvestsSet(14);
        for (int left = 13; left >= 0; left--) {
            Check.same("of 14 actions", x.undo(), left);
        }
        Check.same("the harvest before all of them", x.vegetable(0, 0), 11);
        Check.fails("a fifteenth undo", BAD_STATE, () -> x.undo());
        Check.same("behind 40 actions", withHarvestsSet(40).undo(), 13);
    }

    private static void fifteenthState() {
        HarvestBoxes x = withHarvestsSet(15);
        for (int left = 13; left >= 0; left--) {
            Check.same("of 15 actions", x.undo(), left);
            Check.same("the harvest before", x.vegetable(0, 0), left + 1);
        }
        Check.fails("the first harvest is forgotten", BAD_STATE, () -> x.undo());
        for (Consumer<HarvestBoxes> action : ACTIONS) {
            HarvestBoxes y = withHarvestsSet(14);
            action.accept(y);
            for (int left = 13; left >= 0; left--) {
                Check.same("of 14 actions and another one", y.undo(), left);
            }
            Check.same("the harvest before the second of them", y.vegetable(0, 0), 1);
            Check.fails("the first one is forgotten", BAD_STATE, () -> y.undo());
        }
        HarvestBoxes again = withHarvestsSet(40);
        for (int undos = 0; undos < REMEMBERED; undos++) {
            again.undo();
        }
        Check.same("the oldest of 40 that is remembered", again.vegetable(0, 0), 26);
        again.setHarvest(0, 3);
        Check.same("one again", again.undo(), 0);
        Check.same("and its harvest", again.vegetable(0, 0), 26);
    }

    private static void noActions() {
        HarvestBoxes x = Check.farm("Fh10");
        Check.fails("undo of load", BAD_STATE, () -> x.undo());
        x.save(0);
        x.restore(0);
        Check.fails("undo of restore", BAD_STATE, () -> x.undo());
        x.addHouse(1);
        x.load();
        Check.fails("undo of load behind an action", BAD_STATE, () -> x.undo());
        x.addHouse(1);
        Check.same("the action alone", x.undo(), 0);
    }

    private static HarvestBoxes withLastActions(int times) {
        HarvestBoxes x = someFarm();
        for (int i = 1; i <= times; i++) {
            ACTIONS.get(ACTIONS.size() - i).accept(x);
        }
        return x;
    }

    private static void takenBack() {
        for (int times = 0; times <= ACTIONS.size(); times++) {
            HarvestBoxes x = withLastActions(ACTIONS.size());
            for (int undos = times; undos < ACTIONS.size(); undos++) {
                x.undo();
            }
            Check.same("behind " + times + " actions", Check.pictureOf(x), Check.pictureOf(withLastActions(times)));
        }
        lastHouseTakenBack();
        HarvestBoxes compost = Check.farm("Fh10v00v00v00v00v40s0");
        compost.pack();
        Check.same("composted of the last vegetable of five", compost.vegetable(4, 2), 40);
        compost.undo();
        Check.same("and taken back", compost.vegetable(4, 2), 0);
        Check.same("in all", compost.about(6), 0);
    }

    /** All of the last house too: of six, its size, crates, credit, mark, liking and box. */
    private static HarvestBoxes withLastHouse() {
        HarvestBoxes x = Check.farm("Fh10h10h10h10h10h41v00v00v00v00v40l543s5");
        x.pack();
        x.setHarvest(4, 40);
        x.pack();
        x.skip(5, true);
        return x;
    }

    private static void lastHouseTakenBack() {
        HarvestBoxes x = withLastHouse();
        x.returnCrates(5, 1);
        x.pack();
        x.setLiking(5, 4, 9);
        Check.same("undo of three", x.undo() + x.undo() + x.undo(), 6 + 5 + 4);
        Check.same("the last house of six", Check.pictureOf(x), Check.pictureOf(withLastHouse()));
        int[] due = {4, 2, 3, 1, 20, 60, 0};
        for (int what = 0; what < due.length; what++) {
            Check.same("house(5, " + what + ") behind undo", x.house(5, what), due[what]);
        }
    }

    private static void stillRemembered() {
        HarvestBoxes x = Check.farm("Fv00");
        x.setHarvest(0, 1);
        Check.same("none", x.undo(), 0);
        x.setHarvest(0, 1);
        x.setHarvest(0, 2);
        Check.same("one", x.undo(), 1);
        Check.same("13", withHarvestsSet(14).undo(), 13);
        Check.same("at most 13", withHarvestsSet(15).undo(), 13);
    }

    private static void noneRemembered() {
        Twins.refuse(Twins::nothing, "undo", BAD_STATE, x -> x.undo());
        Twins.refuse(() -> Check.farm(Twins.FULL_TEXT), "undo behind load", BAD_STATE, x -> x.undo());
        Twins.refuse(EdgesOfUndo::someFarm, "undo behind restore", BAD_STATE, x -> x.undo());
        HarvestBoxes x = withHarvestsSet(15);
        for (int undos = 0; undos < REMEMBERED; undos++) {
            x.undo();
        }
        Check.fails("undo behind 14 of them", BAD_STATE, () -> x.undo());
        Check.fails("and again", BAD_STATE, () -> x.undo());
    }
}
