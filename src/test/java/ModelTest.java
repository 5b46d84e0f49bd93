import java.util.Random;
import java.util.function.IntSupplier;

/** Runs of calls, drawn from fixed seeds, on the program and on PlainFarm: each answer is the same. */
public final class ModelTest {
    private static final int RUNS = 1500;
    private static final int CALLS = 512;

    private final Random random;
    private final HarvestBoxes program = new HarvestBoxes();
    private final PlainFarm model = new PlainFarm();
    private final boolean isWild;
    private int calls;

    private ModelTest(long seed) {
        random = new Random(seed);
        isWild = seed % 5 == 0;
    }

    public static void main(String[] args) {
        for (long seed = 0; seed < RUNS; seed++) {
            new ModelTest(seed).run();
        }
        Check.end("ModelTest");
    }

    private void run() {
        if (random.nextInt(4) > 0) {
            writeFarm();
        }
        while (calls < CALLS) {
            switch (random.nextInt(24)) {
                case 0 -> text();
                case 1, 2, 3, 4, 5, 6, 7, 8 -> act();
                case 9, 10, 11 -> wouldBe();
                case 12, 13 -> script();
                case 14 -> slots();
                case 15 -> undo();
                default -> ask();
            }
        }
    }

    /** A call on both, as long as the document promises an answer. */
    private void both(String call, IntSupplier ofProgram, IntSupplier ofModel) {
        calls++;
        if (calls <= CALLS) {
            Check.same(call, answer(ofProgram), answer(ofModel));
        }
    }

    private static String answer(IntSupplier call) {
        try {
            return Integer.toString(call.getAsInt());
        } catch (RuntimeException e) {
            return e.getClass().getName();
        }
    }

    private int upTo(int most) {
        return random.nextInt(most + 1);
    }

    /** Mostly 0 to most, now and then a number outside. */
    private int about(int most) {
        if (random.nextInt(isWild ? 8 : 60) > 0) {
            return upTo(most);
        }
        int[] far = {-1, most + 1, Integer.MIN_VALUE, Integer.MAX_VALUE, -most, most + 2, 10 * most};
        return far[random.nextInt(far.length)];
    }

    private int aHouse() {
        return about(Math.max(0, model.about(0) - 1));
    }

    private int aVegetable() {
        return about(Math.max(0, model.about(1) - 1));
    }

    private void append(int c) {
        both("append(" + c + ")", () -> program.append(c), () -> model.append(c));
    }

    private void text() {
        switch (random.nextInt(4)) {
            case 0 -> writeFarm();
            case 1 -> append("Fhvls0123456789".charAt(random.nextInt(15)));
            case 2 -> append(about(255));
            default -> both("errorPosition()", program::errorPosition, model::errorPosition);
        }
    }

    private void writeFarm() {
        both("clearText()", program::clearText, model::clearText);
        String farm = farm();
        if (random.nextInt(4) == 0) {
            farm = broken(farm);
        }
        for (int i = 0; i < farm.length(); i++) {
            append(farm.charAt(i));
            if (random.nextInt(12) == 0) {
                both("errorPosition() of " + farm.substring(0, i + 1), program::errorPosition, model::errorPosition);
            }
        }
        both("errorPosition() of " + farm, program::errorPosition, model::errorPosition);
        both("load()", program::load, model::load);
    }

    private String broken(String farm) {
        int at = random.nextInt(farm.length());
        char sign = "Fhvls0123456789 :/".charAt(random.nextInt(18));
        return random.nextInt(3) == 0 ? farm.substring(0, at)
                : farm.substring(0, at) + sign + farm.substring(at + random.nextInt(2));
    }

    private String farm() {
        StringBuilder farm = new StringBuilder("F");
        int houses = 0;
        int vegetables = 0;
        int parts = random.nextInt(40);
        for (int i = 0; i < parts && farm.length() < 116; i++) {
            int kind = random.nextInt(12);
            if (kind < 2 && houses < 6) {
                farm.append('h').append(1 + random.nextInt(4)).append(random.nextInt(random.nextBoolean() ? 3 : 10));
                houses++;
            } else if (kind < 4 && vegetables < 5) {
                int harvest = random.nextInt(41);
                farm.append('v').append(harvest / 10).append(harvest % 10);
                vegetables++;
            } else if (kind < 11 && houses > 0 && vegetables > 0) {
                farm.append('l').append(random.nextInt(houses)).append(random.nextInt(vegetables));
                farm.append(random.nextInt(10));
            } else if (kind == 11 && houses > 0) {
                farm.append('s').append(random.nextInt(houses));
            }
        }
        return farm.toString();
    }

    private void act() {
        int h = aHouse();
        int v = aVegetable();
        switch (random.nextInt(10)) {
            case 0 -> {
                int size = about(4);
                both("addHouse(" + size + ")", () -> program.addHouse(size), () -> model.addHouse(size));
            }
            case 1 -> {
                int n = about(40);
                both("addVegetable(" + n + ")", () -> program.addVegetable(n), () -> model.addVegetable(n));
            }
            case 2, 3, 4 -> {
                int n = about(40);
                both("setHarvest(" + v + ", " + n + ")", () -> program.setHarvest(v, n), () -> model.setHarvest(v, n));
            }
            case 5, 6 -> {
                int n = about(9);
                both("setLiking(" + h + ", " + v + ", " + n + ")", () -> program.setLiking(h, v, n),
                        () -> model.setLiking(h, v, n));
            }
            case 7 -> {
                boolean is = random.nextBoolean();
                both("skip(" + h + ", " + is + ")", () -> program.skip(h, is), () -> model.skip(h, is));
            }
            case 8 -> returnOrGive(h, v);
            default -> both("pack()", program::pack, model::pack);
        }
    }

    private void returnOrGive(int h, int v) {
        if (random.nextBoolean()) {
            int n = about(random.nextBoolean() ? 3 : 9);
            both("returnCrates(" + h + ", " + n + ")", () -> program.returnCrates(h, n), () -> model.returnCrates(h, n));
        } else {
            int n = about(random.nextBoolean() ? 5 : 40);
            both("give(" + h + ", " + v + ", " + n + ")", () -> program.give(h, v, n), () -> model.give(h, v, n));
        }
    }

    private void wouldBe() {
        int h = aHouse();
        int v = aVegetable();
        switch (random.nextInt(5)) {
            case 0 -> both("wouldGet(" + h + ", " + v + ")", () -> program.wouldGet(h, v), () -> model.wouldGet(h, v));
            case 1 -> both("wouldBe(" + h + ")", () -> program.wouldBe(h), () -> model.wouldBe(h));
            case 2 -> both("bestSkip()", program::bestSkip, model::bestSkip);
            case 3 -> both("bestMore()", program::bestMore, model::bestMore);
            default -> both("firstSwap()", program::firstSwap, model::firstSwap);
        }
    }

    private void script() {
        if (random.nextInt(3) == 0) {
            long seed = random.nextBoolean() ? random.nextLong() : random.nextInt(100);
            int m = random.nextInt(3) == 0 ? about(31) : about(6);
            both("simulate(" + seed + ", " + m + ")", () -> program.simulate(seed, m), () -> model.simulate(seed, m));
            return;
        }
        int n = 1 + random.nextInt(4);
        long script = 0;
        for (int i = 0; i < n; i++) {
            script = 10000 * script + group();
        }
        int commands = random.nextInt(20) == 0 ? about(4) : n;
        long whole = random.nextInt(40) == 0 ? random.nextLong() : script;
        both("runScript(" + commands + ", " + whole + ")", () -> program.runScript(commands, whole),
                () -> model.runScript(commands, whole));
    }

    private int group() {
        int h = 100 * random.nextInt(Math.max(1, model.about(0)));
        int v = random.nextInt(Math.max(1, model.about(1)));
        int n = random.nextInt(10);
        switch (random.nextInt(12)) {
            case 0, 1: return 1000 + 100 * v + random.nextInt(42);
            case 2: return 2000 + h + 10 * v + n;
            case 3: return 3000 + h + 10 * random.nextInt(2);
            case 4, 5: return 4000;
            case 6: return 5000 + h + 10 * random.nextInt(4);
            case 7: return 6000 + h + 10 * v + n;
            case 8: return 7000 + h + random.nextInt(60);
            case 9: return 8000 + h + 10 * v + n;
            case 10: return 9000 + 100 * random.nextInt(4);
            default: return random.nextInt(10000);
        }
    }

    private void slots() {
        int slot = about(1);
        if (random.nextInt(3) > 0) {
            both("save(" + slot + ")", () -> program.save(slot), () -> model.save(slot));
        } else {
            both("restore(" + slot + ")", () -> program.restore(slot), () -> model.restore(slot));
        }
    }

    private void undo() {
        int times = 1 + random.nextInt(random.nextInt(6) == 0 ? 16 : 3);
        for (int i = 0; i < times; i++) {
            both("undo()", program::undo, model::undo);
        }
    }

    private void ask() {
        int h = aHouse();
        int v = aVegetable();
        switch (random.nextInt(6)) {
            case 0 -> {
                int what = about(9);
                both("about(" + what + ")", () -> program.about(what), () -> model.about(what));
            }
            case 1 -> {
                int what = about(6);
                both("house(" + h + ", " + what + ")", () -> program.house(h, what), () -> model.house(h, what));
            }
            case 2 -> {
                int what = about(3);
                both("vegetable(" + v + ", " + what + ")", () -> program.vegetable(v, what), () -> model.vegetable(v, what));
            }
            case 3 -> both("box(" + h + ", " + v + ")", () -> program.box(h, v), () -> model.box(h, v));
            case 4 -> both("liking(" + h + ", " + v + ")", () -> program.liking(h, v), () -> model.liking(h, v));
            default -> {
                int place = about(6);
                both("order(" + place + ")", () -> program.order(place), () -> model.order(place));
            }
        }
    }
}
