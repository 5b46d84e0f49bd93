import java.util.ArrayList;
import java.util.LinkedHashMap;
import java.util.List;
import java.util.Map;

/** Counts what is as due, prints what is not, and helps the tests to build farms and to look at them. */
final class Check {
    private static final long MOST_SECONDS = 300;
    private static int right;
    private static int wrong;
    private static String topic = "";

    static {
        // A call that never ends must fail its test, not hold up the others.
        Thread guard = new Thread(Check::endAtLast);
        guard.setDaemon(true);
        guard.start();
    }

    private Check() {
    }

    private static void endAtLast() {
        try {
            Thread.sleep(1000 * MOST_SECONDS);
        } catch (InterruptedException e) {
            return;
        }
        System.out.println(topic + "no end after " + MOST_SECONDS + " seconds");
        Runtime.getRuntime().halt(1);
    }

    /** Stands ahead of what is printed from here on. */
    static void topic(String words) {
        topic = words;
    }

    static int compared() {
        return right + wrong;
    }

    static void same(String what, long got, long due) {
        count(what, Long.toString(got), Long.toString(due));
    }

    static void same(String what, String got, String due) {
        count(what, got, due);
    }

    static void holds(String what, boolean is) {
        count(what, is ? "yes" : "no", "yes");
    }

    private static void count(String what, String got, String due) {
        if (got.equals(due)) {
            right++;
        } else {
            wrong++;
            System.out.println(topic + what + ": " + got + ", due is " + due);
        }
    }

    /** The call throws an exception of exactly this class. */
    static void fails(String what, Class<? extends RuntimeException> due, Runnable call) {
        same(what, nameOfThrown(call), due.getSimpleName());
    }

    /** The call throws an exception of exactly this class, and all that can be asked stays as it was. */
    static void failsAndKeeps(HarvestBoxes x, String what, Class<? extends RuntimeException> due, Runnable call) {
        String before = pictureOf(x);
        fails(what, due, call);
        same(what + " changes nothing", pictureOf(x), before);
    }

    /** No call of these changes anything that can be asked. */
    static void keeps(HarvestBoxes x, String what, Runnable calls) {
        String before = pictureOf(x);
        calls.run();
        same(what + " changes nothing", pictureOf(x), before);
    }

    static String nameOfThrown(Runnable call) {
        try {
            call.run();
            return "nothing";
        } catch (RuntimeException e) {
            return e.getClass().getSimpleName();
        }
    }

    static HarvestBoxes withText(String text) {
        HarvestBoxes x = new HarvestBoxes();
        write(x, text);
        return x;
    }

    static void write(HarvestBoxes x, String text) {
        x.clearText();
        for (int i = 0; i < text.length(); i++) {
            x.append(text.charAt(i));
        }
    }

    static HarvestBoxes farm(String text) {
        HarvestBoxes x = withText(text);
        x.load();
        return x;
    }

    /** All that can be asked without a change, but for what the remembered states and the save slots hold. */
    static String pictureOf(HarvestBoxes x) {
        return answersOf(x).toString();
    }

    private static Map<String, Integer> answersOf(HarvestBoxes x) {
        Map<String, Integer> answers = new LinkedHashMap<>();
        answers.put("errorPosition()", x.errorPosition());
        for (int what = 0; what <= 9; what++) {
            answers.put("about(" + what + ")", x.about(what));
        }
        int houses = answers.get("about(0)");
        int vegetables = answers.get("about(1)");
        for (int h = 0; h < houses; h++) {
            for (int what = 0; what <= 6; what++) {
                answers.put("house(" + h + ", " + what + ")", x.house(h, what));
            }
        }
        for (int v = 0; v < vegetables; v++) {
            for (int what = 0; what <= 3; what++) {
                answers.put("vegetable(" + v + ", " + what + ")", x.vegetable(v, what));
            }
        }
        for (int cell = 0; cell < houses * vegetables; cell++) {
            int h = cell / vegetables;
            int v = cell % vegetables;
            answers.put("liking(" + h + ", " + v + ")", x.liking(h, v));
            answers.put("box(" + h + ", " + v + ")", x.box(h, v));
        }
        return answers;
    }

    /** The calls make these answers different, or new, and no others: each is told as "about(2)=1". */
    static void changes(HarvestBoxes x, String what, Runnable calls, String... due) {
        Map<String, Integer> before = answersOf(x);
        calls.run();
        List<String> changed = new ArrayList<>();
        for (Map.Entry<String, Integer> now : answersOf(x).entrySet()) {
            if (!now.getValue().equals(before.get(now.getKey()))) {
                changed.add(now.toString());
            }
        }
        same(what + " changes", changed.toString(), List.of(due).toString());
    }

    static void boxes(HarvestBoxes x, String what, int[][] due) {
        for (int h = 0; h < due.length; h++) {
            for (int v = 0; v < due[h].length; v++) {
                same(what + ": box(" + h + ", " + v + ")", x.box(h, v), due[h][v]);
            }
        }
    }

    static void end(String test) {
        System.out.println(test + ": " + right + " as due, " + wrong + " not");
        if (wrong != 0 || right == 0) {
            System.exit(1);
        }
    }
}
