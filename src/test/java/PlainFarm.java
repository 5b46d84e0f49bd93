import java.util.ArrayDeque;
import java.util.ArrayList;
import java.util.Comparator;
import java.util.Deque;
import java.util.List;

/** The document once more, told as plainly as possible and without care for room: ModelTest compares it with the program. */
final class PlainFarm {
    static final int NONE = -9;

    /** Everything but the text and the save slots. */
    private static final class State {
        final List<int[]> houses = new ArrayList<>(); // size, crates, credit, 1 if it skips
        final List<int[]> vegetables = new ArrayList<>(); // harvest, composted
        final int[][] liking = new int[6][5];
        final int[][] box = new int[6][5];
        int weeks;
        int eaten;
        int given;
        int swaps;

        State copy() {
            State copy = new State();
            houses.forEach(house -> copy.houses.add(house.clone()));
            vegetables.forEach(vegetable -> copy.vegetables.add(vegetable.clone()));
            for (int h = 0; h < 6; h++) {
                copy.liking[h] = liking[h].clone();
                copy.box[h] = box[h].clone();
            }
            copy.weeks = weeks;
            copy.eaten = eaten;
            copy.given = given;
            copy.swaps = swaps;
            return copy;
        }
    }

    private String text = "";
    private State state = new State();
    private final Deque<State> past = new ArrayDeque<>();
    private final State[] slots = new State[2];

    int append(int c) {
        argument(c >= 0 && c <= 255);
        legal(text.length() < 120);
        text += (char) c;
        return text.length();
    }

    int clearText() {
        int length = text.length();
        text = "";
        return length;
    }

    int errorPosition() {
        // A farm that begins with these signs can be gone on with; so the first sign behind which none can is wrong.
        for (int length = 1; length <= text.length(); length++) {
            if (read(text.substring(0, length), null) == 2) {
                return length - 1;
            }
        }
        return read(text, null) == 0 ? NONE : text.length();
    }

    /** 0: it is a farm; 1: it could become one; 2: neither. */
    private static int read(String signs, State into) {
        State told = into == null ? new State() : into;
        if (signs.isEmpty()) {
            return 1;
        }
        if (signs.charAt(0) != 'F') {
            return 2;
        }
        String rest = signs.substring(1);
        while (!rest.isEmpty()) {
            char letter = rest.charAt(0);
            int due = letter == 'l' ? 4 : letter == 's' ? 2 : 3;
            String part = rest.substring(0, Math.min(due, rest.length()));
            int houses = told.houses.size();
            int vegetables = told.vegetables.size();
            boolean stands = switch (letter) {
                case 'h' -> houses < 6 && (part + "10".substring(Math.min(2, part.length() - 1))).matches("h[1-4][0-9]");
                case 'v' -> vegetables < 5 && (part + "00".substring(Math.min(2, part.length() - 1))).matches("v([0-3][0-9]|40)");
                case 'l' -> houses > 0 && vegetables > 0
                        && (part + "000".substring(Math.min(3, part.length() - 1)))
                        .matches("l[0-" + (houses - 1) + "][0-" + (vegetables - 1) + "][0-9]");
                case 's' -> houses > 0 && (part.length() == 1 || part.matches("s[0-" + (houses - 1) + "]"));
                default -> false;
            };
            if (!stands) {
                return 2;
            }
            if (part.length() < due) {
                return 1;
            }
            tell(told, part);
            rest = rest.substring(due);
        }
        return 0;
    }

    private static void tell(State told, String part) {
        int number = Integer.parseInt(part.substring(1));
        switch (part.charAt(0)) {
            case 'h' -> newHouse(told, number / 10, number % 10);
            case 'v' -> newVegetable(told, number);
            case 'l' -> told.liking[number / 100][number / 10 % 10] = number % 10;
            default -> told.houses.get(number)[3] = 1;
        }
    }

    private static void newHouse(State state, int size, int crates) {
        state.houses.add(new int[] {size, crates, 0, 0});
        java.util.Arrays.fill(state.liking[state.houses.size() - 1], 5);
    }

    private static void newVegetable(State state, int harvest) {
        state.vegetables.add(new int[] {harvest, 0});
        for (int h = 0; h < 6; h++) {
            state.liking[h][state.vegetables.size() - 1] = 5;
        }
    }

    int load() {
        State told = new State();
        // A house that is told behind a vegetable has likings 5, and so the other way round.
        legal(read(text, told) == 0);
        state = told;
        past.clear();
        slots[0] = null;
        slots[1] = null;
        return state.houses.size();
    }

    int about(int what) {
        argument(what >= 0 && what <= 9);
        int sum = 0;
        switch (what) {
            case 0: return state.houses.size();
            case 1: return state.vegetables.size();
            case 2: return state.weeks;
            case 3:
                for (int h = 0; h < state.houses.size(); h++) {
                    sum += house(h, 4);
                }
                return sum;
            case 4: return state.eaten;
            case 5: return state.given;
            case 6: return state.vegetables.stream().mapToInt(vegetable -> vegetable[1]).sum();
            case 7: return state.houses.stream().mapToInt(house -> house[1]).sum();
            case 8: return state.swaps;
            default: return withBox(state).size();
        }
    }

    private static List<Integer> withBox(State state) {
        List<Integer> those = new ArrayList<>();
        for (int h = 0; h < state.houses.size(); h++) {
            if (state.houses.get(h)[3] == 0 && state.houses.get(h)[1] < 3) {
                those.add(h);
            }
        }
        return those;
    }

    int house(int h, int what) {
        aHouse(h);
        argument(what >= 0 && what <= 6);
        if (what <= 3) {
            return state.houses.get(h)[what];
        }
        if (what == 4) {
            return java.util.Arrays.stream(state.box[h]).sum();
        }
        return what == 5 ? happiness(state, h) : withBox(state).contains(h) ? 1 : 0;
    }

    private static int happiness(State state, int h) {
        int sum = 0;
        for (int v = 0; v < state.vegetables.size(); v++) {
            sum += state.liking[h][v] * state.box[h][v];
        }
        return sum;
    }

    private static int happiness(State state) {
        int sum = 0;
        for (int h = 0; h < state.houses.size(); h++) {
            sum += happiness(state, h);
        }
        return sum;
    }

    int vegetable(int v, int what) {
        aVegetable(v);
        argument(what >= 0 && what <= 3);
        int sum = 0;
        int most = NONE;
        for (int h = state.houses.size() - 1; h >= 0; h--) {
            sum += state.box[h][v];
            most = most == NONE || state.liking[h][v] >= state.liking[most][v] ? h : most;
        }
        return what == 0 ? state.vegetables.get(v)[0] : what == 1 ? sum : what == 2 ? state.vegetables.get(v)[1] : most;
    }

    int box(int h, int v) {
        aHouse(h);
        aVegetable(v);
        return state.box[h][v];
    }

    int liking(int h, int v) {
        aHouse(h);
        aVegetable(v);
        return state.liking[h][v];
    }

    int order(int place) {
        argument(place >= 0);
        List<Integer> order = new ArrayList<>();
        for (int h = 0; h < state.houses.size(); h++) {
            order.add(h);
        }
        order.sort(Comparator.comparing(h -> -happiness(state, h)));
        return place < order.size() ? order.get(place) : NONE;
    }

    private void remember() {
        past.addLast(state.copy());
        if (past.size() > 14) {
            past.removeFirst();
        }
    }

    int addHouse(int size) {
        argument(size >= 1 && size <= 4);
        legal(state.houses.size() < 6);
        remember();
        newHouse(state, size, 0);
        return state.houses.size() - 1;
    }

    int addVegetable(int harvest) {
        argument(harvest >= 0 && harvest <= 40);
        legal(state.vegetables.size() < 5);
        remember();
        newVegetable(state, harvest);
        return state.vegetables.size() - 1;
    }

    int setHarvest(int v, int n) {
        aVegetable(v);
        argument(n >= 0 && n <= 40);
        remember();
        int before = state.vegetables.get(v)[0];
        state.vegetables.get(v)[0] = n;
        return before;
    }

    int setLiking(int h, int v, int n) {
        aHouse(h);
        aVegetable(v);
        argument(n >= 0 && n <= 9);
        remember();
        int before = state.liking[h][v];
        state.liking[h][v] = n;
        return before;
    }

    int skip(int h, boolean is) {
        aHouse(h);
        remember();
        state.houses.get(h)[3] = is ? 1 : 0;
        return withBox(state).size();
    }

    int pack() {
        remember();
        packWeek(state);
        return state.swaps;
    }

    private static void packWeek(State state) {
        for (int[] box : state.box) {
            state.eaten += java.util.Arrays.stream(box).sum();
            java.util.Arrays.fill(box, 0);
        }
        List<Integer> those = withBox(state);
        int all = those.stream().mapToInt(h -> part(state, h)).sum();
        for (int v = 0; v < state.vegetables.size(); v++) {
            int harvest = state.vegetables.get(v)[0];
            int dealt = 0;
            for (int h : those) {
                state.box[h][v] = harvest * part(state, h) / all;
                dealt += state.box[h][v];
            }
            giveGlut(state, those, v, harvest - dealt);
        }
        state.swaps = 0;
        for (int swap = swapOf(state); swap != NONE; swap = swapOf(state)) {
            state.box[swap / 1000][swap / 10 % 10]--;
            state.box[swap / 1000][swap % 10]++;
            state.box[swap / 100 % 10][swap / 10 % 10]++;
            state.box[swap / 100 % 10][swap % 10]--;
            state.swaps++;
        }
        for (int h = 0; h < state.houses.size(); h++) {
            int[] house = state.houses.get(h);
            house[2] = those.contains(h) ? Math.max(house[2] - 1, 0)
                    : house[3] == 1 ? Math.min(house[2] + house[0], 9) : house[2];
            house[1] += those.contains(h) ? 1 : 0;
            house[3] = 0;
        }
        state.vegetables.forEach(vegetable -> vegetable[0] = 0);
        state.weeks++;
    }

    private static int part(State state, int h) {
        return state.houses.get(h)[0] + Integer.signum(state.houses.get(h)[2]);
    }

    private static void giveGlut(State state, List<Integer> those, int v, int glut) {
        int[] got = new int[6];
        List<Integer> fond = new ArrayList<>(those);
        fond.removeIf(h -> state.liking[h][v] == 0);
        for (int kilo = 0; kilo < glut; kilo++) {
            if (fond.isEmpty()) {
                state.vegetables.get(v)[1]++;
            } else {
                fond.sort(Comparator.<Integer>comparingInt(h -> 2 * got[h] - state.liking[h][v]).thenComparing(h -> h));
                got[fond.get(0)]++;
                state.box[fond.get(0)][v]++;
            }
        }
    }

    private static int swapOf(State state) {
        List<int[]> swaps = new ArrayList<>();
        for (int swap = 0; swap < 6000; swap++) {
            int a = swap / 1000;
            int b = swap / 100 % 10;
            int v = swap / 10 % 10;
            int w = swap % 10;
            boolean there = a < b && b < state.houses.size() && v < state.vegetables.size() && w < state.vegetables.size();
            if (there && state.box[a][v] > 0 && state.box[b][w] > 0 && state.liking[a][w] > state.liking[a][v]
                    && state.liking[b][v] > state.liking[b][w]) {
                int gain = state.liking[a][w] - state.liking[a][v] + state.liking[b][v] - state.liking[b][w];
                swaps.add(new int[] {-gain, swap});
            }
        }
        swaps.sort(Comparator.<int[]>comparingInt(swap -> swap[0]).thenComparingInt(swap -> swap[1]));
        return swaps.isEmpty() ? NONE : swaps.get(0)[1];
    }

    int returnCrates(int h, int n) {
        aHouse(h);
        argument(n >= 1 && n <= 9);
        legal(state.houses.get(h)[1] >= n);
        remember();
        return state.houses.get(h)[1] -= n;
    }

    int give(int h, int v, int n) {
        aHouse(h);
        aVegetable(v);
        argument(n >= 1 && n <= 40);
        legal(state.box[h][v] >= n);
        remember();
        state.given += n;
        return state.box[h][v] -= n;
    }

    int undo() {
        legal(!past.isEmpty());
        state = past.removeLast();
        return past.size();
    }

    private State packed() {
        State copy = state.copy();
        packWeek(copy);
        return copy;
    }

    int wouldGet(int h, int v) {
        aHouse(h);
        aVegetable(v);
        return packed().box[h][v];
    }

    int wouldBe(int h) {
        aHouse(h);
        return happiness(packed(), h);
    }

    int bestSkip() {
        int best = NONE;
        int most = -1;
        for (int h : withBox(state)) {
            State copy = state.copy();
            copy.houses.get(h)[3] = 1;
            packWeek(copy);
            int others = happiness(copy) - happiness(copy, h);
            if (others > most) {
                most = others;
                best = h;
            }
        }
        return best;
    }

    int bestMore() {
        int best = NONE;
        int most = -1;
        for (int v = 0; v < state.vegetables.size(); v++) {
            State copy = state.copy();
            if (++copy.vegetables.get(v)[0] <= 40) {
                packWeek(copy);
                best = happiness(copy) > most ? v : best;
                most = Math.max(most, happiness(copy));
            }
        }
        return best;
    }

    int firstSwap() {
        return swapOf(state);
    }

    int runScript(int n, long script) {
        argument(n >= 1 && n <= 4 && script >= 0 && Long.toString(script).length() <= 4 * n);
        PlainFarm copy = new PlainFarm();
        copy.state = state.copy();
        String digits = "0".repeat(4 * n - Long.toString(script).length()) + script;
        for (int i = 0; i < n; i++) {
            String group = digits.substring(4 * i, 4 * i + 4);
            try {
                if (!copy.succeeds(group, group.charAt(1) - '0', group.charAt(2) - '0', group.charAt(3) - '0')) {
                    return i;
                }
            } catch (IndexOutOfBoundsException | IllegalArgumentException | IllegalStateException e) {
                return i;
            }
        }
        return NONE;
    }

    private boolean succeeds(String group, int d2, int d3, int d4) {
        if (group.matches("1...")) {
            setHarvest(d2, Integer.parseInt(group.substring(2)));
        } else if (group.matches("2...")) {
            setLiking(d2, d3, d4);
        } else if (group.matches("3.[01]0")) {
            skip(d2, d3 == 1);
        } else if (group.equals("4000")) {
            pack();
        } else if (group.matches("5..0")) {
            returnCrates(d2, d3);
        } else if (group.matches("6...")) {
            give(d2, d3, d4);
        } else if (group.matches("7...")) {
            return house(d2, 5) >= Integer.parseInt(group.substring(2));
        } else if (group.matches("8...")) {
            return box(d2, d3) >= d4;
        } else {
            return group.matches("9.00") && about(9) >= d2;
        }
        return true;
    }

    int simulate(long seed, int m) {
        argument(m >= 1 && m <= 30);
        State copy = state.copy();
        long x = seed;
        int swaps = 0;
        int composted = -copy.vegetables.stream().mapToInt(vegetable -> vegetable[1]).sum();
        for (int week = 0; week < m; week++) {
            for (int[] vegetable : copy.vegetables) {
                x = x * 6364136223846793005L + 1442695040888963407L;
                vegetable[0] = (int) (x >>> 33) % 20;
            }
            for (int[] house : copy.houses) {
                x = x * 6364136223846793005L + 1442695040888963407L;
                int r = (int) (x >>> 33);
                house[3] = r % 4 == 0 ? 1 : 0;
                house[1] = r % 4 == 1 ? 0 : house[1];
            }
            packWeek(copy);
            swaps += copy.swaps;
        }
        composted += copy.vegetables.stream().mapToInt(vegetable -> vegetable[1]).sum();
        return 1000 * Math.min(composted, 999) + Math.min(swaps, 999);
    }

    int save(int slot) {
        there(slot == 0 || slot == 1);
        slots[slot] = state.copy();
        return state.weeks;
    }

    int restore(int slot) {
        there(slot == 0 || slot == 1);
        legal(slots[slot] != null);
        state = slots[slot].copy();
        past.clear();
        return state.weeks;
    }

    private void aHouse(int h) {
        there(h >= 0 && h < state.houses.size());
    }

    private void aVegetable(int v) {
        there(v >= 0 && v < state.vegetables.size());
    }

    private static void there(boolean is) {
        if (!is) {
            throw new IndexOutOfBoundsException();
        }
    }

    private static void argument(boolean is) {
        if (!is) {
            throw new IllegalArgumentException();
        }
    }

    private static void legal(boolean is) {
        if (!is) {
            throw new IllegalStateException();
        }
    }
}
