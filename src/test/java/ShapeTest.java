import java.io.IOException;
import java.nio.file.Files;
import java.nio.file.Path;
import java.util.ArrayList;
import java.util.HashMap;
import java.util.HashSet;
import java.util.List;
import java.util.Map;
import java.util.Set;
import java.util.regex.Matcher;
import java.util.regex.Pattern;

/**
 * Rules 8 and 11 of ../shared/LANGUAGE.md: how long the methods are, how deep their calls go, and that none of them comes
 * back to itself. Methods of one name are taken together, so the depth that is told is the real one or more.
 */
public final class ShapeTest {
    private static final int MOST_LINES = 60;
    private static final int MOST_DEEP = 8;
    private static final Pattern HEAD = Pattern.compile(
            "(?m)^ {4,8}(?:(?:public|private|static) )*(?:[\\w\\[\\]]+ )?(\\w+)\\([^()]*\\)[^{};=]*\\{$");
    /** A call, but for those of the library, whose classes are named ahead. */
    private static final Pattern CALL = Pattern.compile("(?<![A-Za-z]\\.)\\b(\\w+)\\(|\\b[a-z]\\w*\\.(\\w+)\\(");

    private static final Map<String, Set<String>> CALLED = new HashMap<>();
    private static final Map<String, Integer> DEPTHS = new HashMap<>();

    public static void main(String[] args) throws IOException {
        String program = withoutComments(Files.readString(Path.of("src/main/java/HarvestBoxes.java")));
        readMethods(program);
        Check.holds("the methods of the face are seen", CALLED.keySet().containsAll(List.of("append", "simulate", "restore")));
        Check.holds("the methods inside are seen", CALLED.keySet().containsAll(List.of("packWeek", "keenestOn", "clear")));
        Check.holds("the calls are seen", CALLED.get("runWeeks").contains("packWeek"));
        Check.holds("the constructors are seen", CALLED.get("HarvestBoxes").contains("History"));
        int deepest = 0;
        for (String method : CALLED.keySet()) {
            deepest = Math.max(deepest, depthOf(method, new ArrayList<>()));
        }
        Check.holds("the calls go " + deepest + " deep", deepest <= MOST_DEEP);
        Check.holds("the depth is told", deepest > 3);
        Check.end("ShapeTest");
    }

    private static String withoutComments(String program) {
        return program.replaceAll("\"[^\"\n]*\"", "\"\"").replaceAll("//[^\n]*", "").replaceAll("(?s)/\\*.*?\\*/", "");
    }

    private static void readMethods(String program) {
        Matcher head = HEAD.matcher(program);
        while (head.find()) {
            String body = program.substring(head.end(), endOfBlock(program, head.end()));
            String name = head.group(1);
            int lines = body.split("\n").length;
            Check.holds(name + " has " + lines + " lines", lines <= MOST_LINES);
            Set<String> called = CALLED.computeIfAbsent(name, any -> new HashSet<>());
            Matcher call = CALL.matcher(body);
            while (call.find()) {
                called.add(call.group(1) == null ? call.group(2) : call.group(1));
            }
        }
    }

    private static int endOfBlock(String program, int begin) {
        int open = 1;
        int at = begin;
        while (open > 0 && at < program.length()) {
            open += program.charAt(at) == '{' ? 1 : program.charAt(at) == '}' ? -1 : 0;
            at++;
        }
        return at;
    }

    /** How many methods stand open at most, this one too; those above it are told, so that a way back is seen. */
    private static int depthOf(String method, List<String> above) {
        if (DEPTHS.containsKey(method)) {
            return DEPTHS.get(method);
        }
        if (above.contains(method)) {
            Check.same("a method that comes back to itself by " + above, method, "none");
            return 0;
        }
        above.add(method);
        int deepest = 0;
        for (String called : CALLED.get(method)) {
            if (CALLED.containsKey(called)) {
                deepest = Math.max(deepest, depthOf(called, above));
            }
        }
        above.remove(method);
        DEPTHS.put(method, deepest + 1);
        return deepest + 1;
    }
}
