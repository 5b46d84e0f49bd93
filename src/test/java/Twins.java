import java.util.function.Consumer;
import java.util.function.Supplier;

/**
 * Whether a call changes anything: objects that it was called on are asked all that can be asked, and so are their
 * twins, that it was not called on. Each question that changes the object has an object of its own.
 */
final class Twins {
    private static final int SLOTS = 2;
    private static final int MORE_THAN_ARE_REMEMBERED = 15;
    /** 120 signs: six houses, five vegetables, 21 likings and a house that skips. */
    static final String FULL_TEXT = "Fh10h21h32h43h19h20v40v39v17v08v01"
            + "l009l111l222l333l444l540l520l248l148l017l108l239l316l407l511l130l240l302l414l523l036s1";

    private Twins() {
    }

    static HarvestBoxes nothing() {
        return new HarvestBoxes();
    }

    /** Some of everything, three states that are remembered, slot 0 in use, a text that is no farm. */
    static HarvestBoxes some() {
        HarvestBoxes x = Check.farm("Fh10h22h13v12v08l009l011l101l119");
        x.pack();
        x.give(0, 0, 1);
        x.setHarvest(0, 9);
        x.save(0);
        x.restore(0);
        x.setHarvest(1, 11);
        x.skip(1, true);
        x.returnCrates(0, 1);
        Check.write(x, "Fh10h22v1");
        return x;
    }

    /** Everything at its most: houses, vegetables, the text, the remembered states and both slots. */
    static HarvestBoxes full() {
        HarvestBoxes x = Check.farm(FULL_TEXT);
        x.save(0);
        x.pack();
        x.give(0, 0, 2);
        for (int n = 0; n < 14; n++) {
            x.setHarvest(n % 5, 40 - n);
        }
        x.save(1);
        x.skip(0, true);
        return x;
    }

    /** The call throws an exception of exactly this class, and nothing at all is different then. */
    static void refuse(Supplier<HarvestBoxes> maker, String what, Class<? extends RuntimeException> due,
            Consumer<HarvestBoxes> call) {
        HarvestBoxes x = maker.get();
        Check.fails(what, due, () -> call.accept(x));
        keep(maker, what, y -> Check.nameOfThrown(() -> call.accept(y)));
    }

    /** Refused, whatever there is. */
    static void refuseAlways(String what, Class<? extends RuntimeException> due, Consumer<HarvestBoxes> call) {
        refuse(Twins::nothing, what + " with nothing", due, call);
        refuse(Twins::some, what + " with some", due, call);
        refuse(Twins::full, what + " with all", due, call);
    }

    static void keep(Supplier<HarvestBoxes> maker, String what, Consumer<HarvestBoxes> call) {
        Check.same(what + " changes nothing", allOf(maker, call), allOf(maker, x -> { }));
    }

    static void keepAlways(String what, Consumer<HarvestBoxes> call) {
        keep(Twins::nothing, what + " with nothing", call);
        keep(Twins::some, what + " with some", call);
        keep(Twins::full, what + " with all", call);
    }

    private static String allOf(Supplier<HarvestBoxes> maker, Consumer<HarvestBoxes> call) {
        StringBuilder all = new StringBuilder();
        for (int undos = 0; undos <= MORE_THAN_ARE_REMEMBERED; undos++) {
            int times = undos;
            all.append(behind(maker, call, x -> undoSeveral(x, times))).append('\n');
        }
        for (int slot = 0; slot < SLOTS; slot++) {
            int from = slot;
            all.append(behind(maker, call, x -> x.restore(from))).append('\n');
        }
        all.append(behind(maker, call, x -> x.load())).append('\n');
        HarvestBoxes x = maker.get();
        call.accept(x);
        return all.append(x.clearText()).toString();
    }

    private static void undoSeveral(HarvestBoxes x, int times) {
        for (int i = 0; i < times; i++) {
            x.undo();
        }
    }

    private static String behind(Supplier<HarvestBoxes> maker, Consumer<HarvestBoxes> call, Consumer<HarvestBoxes> then) {
        HarvestBoxes x = maker.get();
        call.accept(x);
        return Check.nameOfThrown(() -> then.accept(x)) + "; " + Check.pictureOf(x);
    }
}
