import java.util.Arrays;

/**
 * Vegetable boxes of up to six houses: what is harvested is shared out by sizes and likings, swapped between the
 * houses and accounted for, kilo by kilo. Changes can be undone, saved and tried out on a copy.
 */
public final class HarvestBoxes {
    public static final int NONE = -9;

    private static final int MOST_HOUSES = 6;
    private static final int MOST_VEGETABLES = 5;
    private static final int CELLS = MOST_HOUSES * MOST_VEGETABLES;
    private static final int MOST_SIZE = 4;
    private static final int MOST_CRATES = 9;
    private static final int CRATES_THAT_STOP_A_BOX = 3;
    private static final int MOST_CREDIT = 9;
    private static final int MOST_HARVEST = 40;
    private static final int MOST_GIVEN = 40;
    private static final int MOST_LIKING = 9;
    private static final int FIRST_LIKING = 5;
    private static final int MOST_SWAPS = 1000000;
    private static final int MOST_SIGN = 255;
    private static final int MOST_TEXT = 120;
    private static final int MOST_REMEMBERED = 14;
    private static final int MOST_COMMANDS = 4;
    private static final int MOST_SIMULATED_WEEKS = 30;
    private static final int MOST_TOLD = 999;
    private static final int SLOTS = 2;

    private final FarmText text;
    private final Farm now;
    private final Farm trial;
    private final History history;
    private final Farm[] slots;
    private final boolean[] isSaved;
    private final Packer packer;
    private final Best best;
    private final Swap swap;
    private final ScriptRunner scriptRunner;
    private final Simulation simulation;

    public HarvestBoxes() {
        text = new FarmText();
        now = new Farm();
        trial = new Farm();
        history = new History();
        slots = new Farm[SLOTS];
        for (int slot = 0; slot < SLOTS; slot++) {
            slots[slot] = new Farm();
        }
        isSaved = new boolean[SLOTS];
        packer = new Packer();
        best = new Best();
        swap = new Swap();
        scriptRunner = new ScriptRunner();
        simulation = new Simulation();
    }

    // ---- text

    public int append(int c) throws IllegalArgumentException, IllegalStateException {
        needWithin(c, 0, MOST_SIGN);
        if (text.isFull()) {
            throw new IllegalStateException("the text is full");
        }
        return text.put(c);
    }

    public int clearText() {
        return text.empty();
    }

    public int errorPosition() {
        return text.readInto(trial);
    }

    public int load() throws IllegalStateException {
        if (text.readInto(trial) != NONE) {
            throw new IllegalStateException("the text is not a farm");
        }
        now.copyFrom(trial);
        history.forget();
        for (int slot = 0; slot < SLOTS; slot++) {
            isSaved[slot] = false;
        }
        return now.houses;
    }

    // ---- what there is

    public int about(int what) throws IllegalArgumentException {
        switch (what) {
            case 0: return now.houses;
            case 1: return now.vegetables;
            case 2: return now.weeks;
            case 3: return now.kilosInBoxes();
            case 4: return now.eaten;
            case 5: return now.given;
            case 6: return now.compostedOfAll();
            case 7: return now.owedByAll();
            case 8: return now.swaps;
            case 9: return now.housesWithBoxNext();
            default: throw new IllegalArgumentException("there is no such number");
        }
    }

    public int house(int h, int what) throws IndexOutOfBoundsException, IllegalArgumentException {
        needHouse(h);
        switch (what) {
            case 0: return now.size[h];
            case 1: return now.owed[h];
            case 2: return now.credit[h];
            case 3: return now.skipping[h];
            case 4: return now.kilosOfHouse(h);
            case 5: return now.happinessOf(h);
            case 6: return now.getsBoxNext(h) ? 1 : 0;
            default: throw new IllegalArgumentException("there is no such number of a house");
        }
    }

    public int vegetable(int v, int what) throws IndexOutOfBoundsException, IllegalArgumentException {
        needVegetable(v);
        switch (what) {
            case 0: return now.harvest[v];
            case 1: return now.kilosOfVegetable(v);
            case 2: return now.composted[v];
            case 3: return fondestOf(v);
            default: throw new IllegalArgumentException("there is no such number of a vegetable");
        }
    }

    public int box(int h, int v) throws IndexOutOfBoundsException {
        needHouse(h);
        needVegetable(v);
        return now.kilos[cell(h, v)];
    }

    public int liking(int h, int v) throws IndexOutOfBoundsException {
        needHouse(h);
        needVegetable(v);
        return now.likings[cell(h, v)];
    }

    public int order(int place) throws IllegalArgumentException {
        if (place < 0) {
            throw new IllegalArgumentException("a place is 0 or more");
        }
        for (int h = 0; h < now.houses; h++) {
            if (now.placeOf(h) == place) {
                return h;
            }
        }
        return NONE;
    }

    // ---- actions

    public int addHouse(int size) throws IllegalArgumentException, IllegalStateException {
        needWithin(size, 1, MOST_SIZE);
        if (now.houses >= MOST_HOUSES) {
            throw new IllegalStateException("there is no room for a house");
        }
        history.remember(now);
        now.putHouse(size, 0);
        return now.houses - 1;
    }

    public int addVegetable(int harvest) throws IllegalArgumentException, IllegalStateException {
        needWithin(harvest, 0, MOST_HARVEST);
        if (now.vegetables >= MOST_VEGETABLES) {
            throw new IllegalStateException("there is no room for a vegetable");
        }
        history.remember(now);
        now.putVegetable(harvest);
        return now.vegetables - 1;
    }

    public int setHarvest(int v, int n) throws IndexOutOfBoundsException, IllegalArgumentException {
        needVegetable(v);
        needWithin(n, 0, MOST_HARVEST);
        history.remember(now);
        int before = now.harvest[v];
        now.harvest[v] = n;
        return before;
    }

    public int setLiking(int h, int v, int n) throws IndexOutOfBoundsException, IllegalArgumentException {
        needHouse(h);
        needVegetable(v);
        needWithin(n, 0, MOST_LIKING);
        history.remember(now);
        int before = now.likings[cell(h, v)];
        now.likings[cell(h, v)] = n;
        return before;
    }

    public int skip(int h, boolean is) throws IndexOutOfBoundsException {
        needHouse(h);
        history.remember(now);
        now.skipping[h] = is ? 1 : 0;
        return now.housesWithBoxNext();
    }

    public int pack() {
        history.remember(now);
        packer.packWeek(now);
        return now.swaps;
    }

    public int returnCrates(int h, int n)
            throws IndexOutOfBoundsException, IllegalArgumentException, IllegalStateException {
        needHouse(h);
        needWithin(n, 1, MOST_CRATES);
        if (now.owed[h] < n) {
            throw new IllegalStateException("the house does not owe so many crates");
        }
        history.remember(now);
        now.owed[h] -= n;
        return now.owed[h];
    }

    public int give(int h, int v, int n)
            throws IndexOutOfBoundsException, IllegalArgumentException, IllegalStateException {
        needHouse(h);
        needVegetable(v);
        needWithin(n, 1, MOST_GIVEN);
        if (now.kilos[cell(h, v)] < n) {
            throw new IllegalStateException("the house does not have so many kilos");
        }
        history.remember(now);
        now.giveAway(h, v, n);
        return now.kilos[cell(h, v)];
    }

    public int undo() throws IllegalStateException {
        if (history.remembered() == 0) {
            throw new IllegalStateException("no state is remembered");
        }
        history.takeBackInto(now);
        return history.remembered();
    }

    // ---- what would be

    public int wouldGet(int h, int v) throws IndexOutOfBoundsException {
        needHouse(h);
        needVegetable(v);
        trial.copyFrom(now);
        packer.packWeek(trial);
        return trial.kilos[cell(h, v)];
    }

    public int wouldBe(int h) throws IndexOutOfBoundsException {
        needHouse(h);
        trial.copyFrom(now);
        packer.packWeek(trial);
        return trial.happinessOf(h);
    }

    public int bestSkip() {
        best.startAnew();
        for (int h = 0; h < now.houses; h++) {
            if (now.getsBoxNext(h)) {
                best.offer(h, happinessWithout(h));
            }
        }
        return best.number();
    }

    public int bestMore() {
        best.startAnew();
        for (int v = 0; v < now.vegetables; v++) {
            if (now.harvest[v] < MOST_HARVEST) {
                best.offer(v, happinessWithMore(v));
            }
        }
        return best.number();
    }

    public int firstSwap() {
        return swap.findFirst(now) ? swap.number() : NONE;
    }

    // ---- scripts, simulations

    public int runScript(int n, long script) throws IllegalArgumentException {
        needWithin(n, 1, MOST_COMMANDS);
        if (script < 0 || ScriptRunner.withoutLast(script, n) > 0) {
            throw new IllegalArgumentException("the script has not the digits of so many commands");
        }
        return scriptRunner.firstFailure(now, n, script);
    }

    public int simulate(long seed, int m) throws IllegalArgumentException {
        needWithin(m, 1, MOST_SIMULATED_WEEKS);
        return simulation.runWeeks(now, seed, m);
    }

    // ---- save slots

    public int save(int slot) throws IndexOutOfBoundsException {
        needSlot(slot);
        slots[slot].copyFrom(now);
        isSaved[slot] = true;
        return now.weeks;
    }

    public int restore(int slot) throws IndexOutOfBoundsException, IllegalStateException {
        needSlot(slot);
        if (!isSaved[slot]) {
            throw new IllegalStateException("nothing has been saved in this slot");
        }
        now.copyFrom(slots[slot]);
        history.forget();
        return now.weeks;
    }

    // ---- what the calls share

    private void needHouse(int h) {
        if (!now.hasHouse(h)) {
            throw new IndexOutOfBoundsException("there is no such house");
        }
    }

    private void needVegetable(int v) {
        if (!now.hasVegetable(v)) {
            throw new IndexOutOfBoundsException("there is no such vegetable");
        }
    }

    private static void needSlot(int slot) {
        if (slot < 0 || slot >= SLOTS) {
            throw new IndexOutOfBoundsException("there is no such save slot");
        }
    }

    private static void needWithin(int n, int low, int high) {
        if (n < low || n > high) {
            throw new IllegalArgumentException("a number is out of its range");
        }
    }

    private int fondestOf(int v) {
        best.startAnew();
        for (int h = 0; h < now.houses; h++) {
            best.offer(h, now.likings[cell(h, v)]);
        }
        return best.number();
    }

    private int happinessWithout(int h) {
        trial.copyFrom(now);
        trial.skipping[h] = 1;
        packer.packWeek(trial);
        // A house that skips has an empty box then, so it adds nothing to the happiness of the others.
        return trial.happinessOfAll();
    }

    private int happinessWithMore(int v) {
        trial.copyFrom(now);
        trial.harvest[v]++;
        packer.packWeek(trial);
        return trial.happinessOfAll();
    }

    private static int cell(int h, int v) {
        return h * MOST_VEGETABLES + v;
    }

    /**
     * The state: all that an action can change. The rows are as long as a farm can grow, so that a state is copied
     * into another one without making anything.
     */
    private static final class Farm {
        int houses;
        int vegetables;
        int weeks;
        int eaten;
        int given;
        int swaps;
        final int[] size;
        final int[] owed;
        final int[] credit;
        final int[] skipping;
        final int[] harvest;
        final int[] composted;
        final int[] likings;
        final int[] kilos;

        Farm() {
            size = new int[MOST_HOUSES];
            owed = new int[MOST_HOUSES];
            credit = new int[MOST_HOUSES];
            skipping = new int[MOST_HOUSES];
            harvest = new int[MOST_VEGETABLES];
            composted = new int[MOST_VEGETABLES];
            likings = new int[CELLS];
            kilos = new int[CELLS];
            clear();
        }

        void clear() {
            houses = 0;
            vegetables = 0;
            weeks = 0;
            eaten = 0;
            given = 0;
            swaps = 0;
            Arrays.fill(size, 0);
            Arrays.fill(owed, 0);
            Arrays.fill(credit, 0);
            Arrays.fill(skipping, 0);
            Arrays.fill(harvest, 0);
            Arrays.fill(composted, 0);
            // Houses and vegetables never go, so a liking that waits here is still the first one when they come.
            Arrays.fill(likings, FIRST_LIKING);
            Arrays.fill(kilos, 0);
        }

        void copyFrom(Farm other) {
            houses = other.houses;
            vegetables = other.vegetables;
            weeks = other.weeks;
            eaten = other.eaten;
            given = other.given;
            swaps = other.swaps;
            System.arraycopy(other.size, 0, size, 0, MOST_HOUSES);
            System.arraycopy(other.owed, 0, owed, 0, MOST_HOUSES);
            System.arraycopy(other.credit, 0, credit, 0, MOST_HOUSES);
            System.arraycopy(other.skipping, 0, skipping, 0, MOST_HOUSES);
            System.arraycopy(other.harvest, 0, harvest, 0, MOST_VEGETABLES);
            System.arraycopy(other.composted, 0, composted, 0, MOST_VEGETABLES);
            System.arraycopy(other.likings, 0, likings, 0, CELLS);
            System.arraycopy(other.kilos, 0, kilos, 0, CELLS);
        }

        boolean hasHouse(int h) {
            return h >= 0 && h < houses;
        }

        boolean hasVegetable(int v) {
            return v >= 0 && v < vegetables;
        }

        void putHouse(int itsSize, int itsCrates) {
            if (houses < MOST_HOUSES) {
                size[houses] = itsSize;
                owed[houses] = itsCrates;
                houses++;
            }
        }

        void putVegetable(int itsHarvest) {
            if (vegetables < MOST_VEGETABLES) {
                harvest[vegetables] = itsHarvest;
                vegetables++;
            }
        }

        void giveAway(int h, int v, int n) {
            kilos[cell(h, v)] -= n;
            given += n;
        }

        boolean getsBoxNext(int h) {
            return skipping[h] == 0 && owed[h] < CRATES_THAT_STOP_A_BOX;
        }

        int housesWithBoxNext() {
            int count = 0;
            for (int h = 0; h < houses; h++) {
                if (getsBoxNext(h)) {
                    count++;
                }
            }
            return count;
        }

        int kilosOfHouse(int h) {
            int sum = 0;
            for (int v = 0; v < vegetables; v++) {
                sum += kilos[cell(h, v)];
            }
            return sum;
        }

        int kilosOfVegetable(int v) {
            int sum = 0;
            for (int h = 0; h < houses; h++) {
                sum += kilos[cell(h, v)];
            }
            return sum;
        }

        int kilosInBoxes() {
            int sum = 0;
            for (int h = 0; h < houses; h++) {
                sum += kilosOfHouse(h);
            }
            return sum;
        }

        int compostedOfAll() {
            int sum = 0;
            for (int v = 0; v < vegetables; v++) {
                sum += composted[v];
            }
            return sum;
        }

        int owedByAll() {
            int sum = 0;
            for (int h = 0; h < houses; h++) {
                sum += owed[h];
            }
            return sum;
        }

        int happinessOf(int h) {
            int sum = 0;
            for (int v = 0; v < vegetables; v++) {
                sum += likings[cell(h, v)] * kilos[cell(h, v)];
            }
            return sum;
        }

        int happinessOfAll() {
            int sum = 0;
            for (int h = 0; h < houses; h++) {
                sum += happinessOf(h);
            }
            return sum;
        }

        int placeOf(int h) {
            int own = happinessOf(h);
            int ahead = 0;
            for (int other = 0; other < houses; other++) {
                int theirs = happinessOf(other);
                if (theirs > own || theirs == own && other < h) {
                    ahead++;
                }
            }
            return ahead;
        }
    }

    /** The states before the last actions, in a ring, so that the oldest one makes room for a new one. */
    private static final class History {
        private final Farm[] past;
        private int count;
        private int next;

        History() {
            past = new Farm[MOST_REMEMBERED];
            for (int i = 0; i < MOST_REMEMBERED; i++) {
                past[i] = new Farm();
            }
        }

        int remembered() {
            return count;
        }

        void forget() {
            count = 0;
        }

        void remember(Farm farm) {
            past[next].copyFrom(farm);
            next = (next + 1) % MOST_REMEMBERED;
            if (count < MOST_REMEMBERED) {
                count++;
            }
        }

        void takeBackInto(Farm farm) {
            if (count > 0) {
                next = (next + MOST_REMEMBERED - 1) % MOST_REMEMBERED;
                count--;
                farm.copyFrom(past[next]);
            }
        }
    }

    /** The text buffer, and how it is read: the place where the reading stops is the error position. */
    private static final class FarmText {
        private final int[] signs;
        private int length;
        private int place;

        FarmText() {
            signs = new int[MOST_TEXT];
        }

        boolean isFull() {
            return length >= MOST_TEXT;
        }

        int put(int sign) {
            if (length < MOST_TEXT) {
                signs[length] = sign;
                length++;
            }
            return length;
        }

        int empty() {
            int before = length;
            length = 0;
            return before;
        }

        int readInto(Farm farm) {
            farm.clear();
            place = 0;
            if (nextSign() != 'F') {
                return place;
            }
            place++;
            for (int part = 0; part < MOST_TEXT && place < length; part++) {
                if (!readsPart(farm)) {
                    return place;
                }
            }
            return NONE;
        }

        private int nextSign() {
            return place < length && place < MOST_TEXT ? signs[place] : NONE;
        }

        private boolean readsPart(Farm farm) {
            switch (nextSign()) {
                case 'h': return farm.houses < MOST_HOUSES && readsHouse(farm);
                case 'v': return farm.vegetables < MOST_VEGETABLES && readsVegetable(farm);
                case 'l': return farm.houses > 0 && farm.vegetables > 0 && readsLiking(farm);
                case 's': return farm.houses > 0 && readsSkip(farm);
                default: return false;
            }
        }

        private boolean readsHouse(Farm farm) {
            place++;
            int size = readDigit(1, MOST_SIZE);
            int crates = size == NONE ? NONE : readDigit(0, MOST_CRATES);
            if (crates == NONE) {
                return false;
            }
            farm.putHouse(size, crates);
            return true;
        }

        private boolean readsVegetable(Farm farm) {
            place++;
            int tens = readDigit(0, MOST_HARVEST / 10);
            int ones = tens == NONE ? NONE : readDigit(0, Math.min(9, MOST_HARVEST - 10 * tens));
            if (ones == NONE) {
                return false;
            }
            farm.putVegetable(10 * tens + ones);
            return true;
        }

        private boolean readsLiking(Farm farm) {
            place++;
            int h = readDigit(0, farm.houses - 1);
            int v = h == NONE ? NONE : readDigit(0, farm.vegetables - 1);
            int n = v == NONE ? NONE : readDigit(0, MOST_LIKING);
            if (n == NONE) {
                return false;
            }
            farm.likings[cell(h, v)] = n;
            return true;
        }

        private boolean readsSkip(Farm farm) {
            place++;
            int h = readDigit(0, farm.houses - 1);
            if (h == NONE) {
                return false;
            }
            farm.skipping[h] = 1;
            return true;
        }

        private int readDigit(int low, int high) {
            int digit = nextSign() - '0';
            if (digit < low || digit > high) {
                return NONE;
            }
            place++;
            return digit;
        }
    }

    /** Keeps the number of the greatest worth that is offered, and of several the one that was offered first. */
    private static final class Best {
        private int number;
        private int worth;

        void startAnew() {
            number = NONE;
        }

        void offer(int itsNumber, int itsWorth) {
            if (number == NONE || itsWorth > worth) {
                number = itsNumber;
                worth = itsWorth;
            }
        }

        int number() {
            return number;
        }
    }

    /** A swap, and the search for the one that is made first. */
    private static final class Swap {
        private int a;
        private int b;
        private int v;
        private int w;
        private int gain;

        boolean findFirst(Farm farm) {
            gain = 0;
            for (int one = 0; one < farm.houses; one++) {
                for (int other = one + 1; other < farm.houses; other++) {
                    findBetween(farm, one, other);
                }
            }
            return gain > 0;
        }

        private void findBetween(Farm farm, int one, int other) {
            int mine = one * MOST_VEGETABLES;
            int theirs = other * MOST_VEGETABLES;
            for (int given = 0; given < farm.vegetables; given++) {
                if (farm.kilos[mine + given] == 0) {
                    continue;
                }
                for (int taken = 0; taken < farm.vegetables; taken++) {
                    if (farm.kilos[theirs + taken] == 0) {
                        continue;
                    }
                    int gainOfOne = farm.likings[mine + taken] - farm.likings[mine + given];
                    int gainOfOther = farm.likings[theirs + given] - farm.likings[theirs + taken];
                    boolean bothGain = gainOfOne > 0 && gainOfOther > 0;
                    // Only a greater gain is kept: the swaps are looked at from the lowest one on.
                    if (bothGain && gainOfOne + gainOfOther > gain) {
                        a = one;
                        b = other;
                        v = given;
                        w = taken;
                        gain = gainOfOne + gainOfOther;
                    }
                }
            }
        }

        void makeIn(Farm farm) {
            farm.kilos[cell(a, v)]--;
            farm.kilos[cell(b, v)]++;
            farm.kilos[cell(b, w)]--;
            farm.kilos[cell(a, w)]++;
        }

        int number() {
            return 1000 * a + 100 * b + 10 * v + w;
        }
    }

    /** Packs a week of any farm. */
    private static final class Packer {
        /** The part of each house in this week, 0 for those that get no box. */
        private final int[] part;
        private final int[] gotOfGlut;
        private final Best keenest;
        private final Swap swap;

        Packer() {
            part = new int[MOST_HOUSES];
            gotOfGlut = new int[MOST_HOUSES];
            keenest = new Best();
            swap = new Swap();
        }

        void packWeek(Farm farm) {
            farm.eaten += farm.kilosInBoxes();
            Arrays.fill(farm.kilos, 0);
            int allParts = tellParts(farm);
            for (int v = 0; v < farm.vegetables; v++) {
                int glut = dealShares(farm, v, allParts);
                giveGlut(farm, v, glut);
            }
            farm.swaps = makeSwaps(farm);
            closeWeek(farm);
        }

        private int tellParts(Farm farm) {
            int sum = 0;
            for (int h = 0; h < farm.houses; h++) {
                part[h] = farm.getsBoxNext(h) ? farm.size[h] + (farm.credit[h] > 0 ? 1 : 0) : 0;
                sum += part[h];
            }
            return sum;
        }

        private int dealShares(Farm farm, int v, int allParts) {
            int left = farm.harvest[v];
            if (allParts > 0) {
                for (int h = 0; h < farm.houses; h++) {
                    int share = farm.harvest[v] * part[h] / allParts;
                    farm.kilos[cell(h, v)] = share;
                    left -= share;
                }
            }
            return left;
        }

        private void giveGlut(Farm farm, int v, int glut) {
            Arrays.fill(gotOfGlut, 0);
            for (int kilo = 0; kilo < glut; kilo++) {
                int h = keenestOn(farm, v);
                if (h == NONE) {
                    farm.composted[v]++;
                } else {
                    farm.kilos[cell(h, v)]++;
                    gotOfGlut[h]++;
                }
            }
        }

        private int keenestOn(Farm farm, int v) {
            keenest.startAnew();
            for (int h = 0; h < farm.houses; h++) {
                int wish = farm.likings[cell(h, v)];
                if (part[h] > 0 && wish > 0) {
                    keenest.offer(h, wish - 2 * gotOfGlut[h]);
                }
            }
            return keenest.number();
        }

        private int makeSwaps(Farm farm) {
            int made = 0;
            while (made < MOST_SWAPS && swap.findFirst(farm)) {
                swap.makeIn(farm);
                made++;
            }
            return made;
        }

        private void closeWeek(Farm farm) {
            for (int h = 0; h < farm.houses; h++) {
                if (part[h] > 0) {
                    farm.owed[h] = Math.min(MOST_CRATES, farm.owed[h] + 1);
                    farm.credit[h] = Math.max(0, farm.credit[h] - 1);
                } else if (farm.skipping[h] == 1) {
                    farm.credit[h] = Math.min(MOST_CREDIT, farm.credit[h] + farm.size[h]);
                }
            }
            Arrays.fill(farm.skipping, 0);
            Arrays.fill(farm.harvest, 0);
            farm.weeks++;
        }
    }

    /** Runs the commands of a script on a copy of a farm. */
    private static final class ScriptRunner {
        private static final int GROUP = 10000;

        private final Farm farm;
        private final Packer packer;

        ScriptRunner() {
            farm = new Farm();
            packer = new Packer();
        }

        static long withoutLast(long script, int groups) {
            long rest = script;
            for (int i = 0; i < groups; i++) {
                rest /= GROUP;
            }
            return rest;
        }

        int firstFailure(Farm start, int n, long script) {
            farm.copyFrom(start);
            for (int i = 0; i < n; i++) {
                int group = (int) (withoutLast(script, n - 1 - i) % GROUP);
                if (!succeeds(group / 1000, group / 100 % 10, group / 10 % 10, group % 10)) {
                    return i;
                }
            }
            return NONE;
        }

        private boolean succeeds(int d1, int d2, int d3, int d4) {
            switch (d1) {
                case 1: return setsHarvest(d2, 10 * d3 + d4);
                case 2: return setsLiking(d2, d3, d4);
                case 3: return d4 == 0 && setsSkip(d2, d3);
                case 4:
                    if (d2 != 0 || d3 != 0 || d4 != 0) {
                        return false;
                    }
                    packer.packWeek(farm);
                    return true;
                case 5: return d4 == 0 && returnsCrates(d2, d3);
                case 6: return givesAway(d2, d3, d4);
                case 7: return farm.hasHouse(d2) && farm.happinessOf(d2) >= 10 * d3 + d4;
                case 8: return hasCell(d2, d3) && farm.kilos[cell(d2, d3)] >= d4;
                case 9: return d3 == 0 && d4 == 0 && farm.housesWithBoxNext() >= d2;
                default: return false;
            }
        }

        private boolean hasCell(int h, int v) {
            return farm.hasHouse(h) && farm.hasVegetable(v);
        }

        private boolean setsHarvest(int v, int n) {
            if (!farm.hasVegetable(v) || n > MOST_HARVEST) {
                return false;
            }
            farm.harvest[v] = n;
            return true;
        }

        private boolean setsLiking(int h, int v, int n) {
            if (!hasCell(h, v)) {
                return false;
            }
            farm.likings[cell(h, v)] = n;
            return true;
        }

        private boolean setsSkip(int h, int is) {
            if (!farm.hasHouse(h) || is > 1) {
                return false;
            }
            farm.skipping[h] = is;
            return true;
        }

        private boolean returnsCrates(int h, int n) {
            if (!farm.hasHouse(h) || n < 1 || farm.owed[h] < n) {
                return false;
            }
            farm.owed[h] -= n;
            return true;
        }

        private boolean givesAway(int h, int v, int n) {
            if (!hasCell(h, v) || n < 1 || farm.kilos[cell(h, v)] < n) {
                return false;
            }
            farm.giveAway(h, v, n);
            return true;
        }
    }

    /** Lets weeks pass on a copy of a farm. */
    private static final class Simulation {
        private static final long FACTOR = 6364136223846793005L;
        private static final long STEP = 1442695040888963407L;

        private final Farm farm;
        private final Packer packer;
        private long x;

        Simulation() {
            farm = new Farm();
            packer = new Packer();
        }

        int runWeeks(Farm start, long seed, int m) {
            farm.copyFrom(start);
            x = seed;
            int compostedBefore = farm.compostedOfAll();
            int swaps = 0;
            for (int week = 0; week < m; week++) {
                drawHarvests();
                drawHouses();
                packer.packWeek(farm);
                swaps += farm.swaps;
            }
            int composted = farm.compostedOfAll() - compostedBefore;
            return 1000 * Math.min(MOST_TOLD, composted) + Math.min(MOST_TOLD, swaps);
        }

        private int draw() {
            x = x * FACTOR + STEP;
            return (int) (x >>> 33);
        }

        private void drawHarvests() {
            for (int v = 0; v < farm.vegetables; v++) {
                farm.harvest[v] = draw() % 20;
            }
        }

        private void drawHouses() {
            for (int h = 0; h < farm.houses; h++) {
                int fate = draw() % 4;
                farm.skipping[h] = fate == 0 ? 1 : 0;
                if (fate == 1) {
                    farm.owed[h] = 0;
                }
            }
        }
    }
}
