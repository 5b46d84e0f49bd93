import java.io.IOException;
import java.lang.reflect.InvocationTargetException;
import java.lang.reflect.Method;
import java.lang.reflect.Modifier;
import java.nio.file.Files;
import java.nio.file.Path;
import java.util.HashMap;
import java.util.Map;
import java.util.regex.Matcher;
import java.util.regex.Pattern;

/** The calls of README.md's example answer what stands behind them, and it names each call and each test that there is. */
public final class ReadmeTest {
    private static final Pattern CALL = Pattern.compile("(?:int (\\w+) = )?farm\\.(\\w+)\\(([^)]*)\\); +// (-?\\d+): .+");
    private static final Map<String, Integer> NAMES = new HashMap<>();

    public static void main(String[] args) throws IOException, ReflectiveOperationException {
        String readme = Files.readString(Path.of("README.md"));
        example(readme);
        farmAsText(readme);
        for (Method method : HarvestBoxes.class.getDeclaredMethods()) {
            boolean isPublic = Modifier.isPublic(method.getModifiers());
            Check.holds("README.md names " + method.getName(), !isPublic || readme.contains("`" + method.getName() + "`"));
        }
        try (var tests = Files.newDirectoryStream(Path.of("src/test/java"), "*Test.java")) {
            for (Path test : tests) {
                String name = test.getFileName().toString().replace(".java", "");
                Check.holds("README.md names " + name, readme.contains("`" + name + "`"));
            }
        }
        Check.end("ReadmeTest");
    }

    private static void example(String readme) throws ReflectiveOperationException {
        String begin = "```java\nHarvestBoxes farm = new HarvestBoxes();\n";
        int at = readme.indexOf(begin) + begin.length();
        Check.holds("README.md has an example", at >= begin.length());
        HarvestBoxes farm = new HarvestBoxes();
        for (String line : readme.substring(at, readme.indexOf("```", at)).strip().split("\n")) {
            Matcher call = CALL.matcher(line);
            boolean isCall = call.matches();
            Check.holds("a call with its answer: " + line, isCall);
            if (isCall) {
                int answer = answerOf(farm, call.group(2), call.group(3).split(", *"));
                Check.same(line, answer, Integer.parseInt(call.group(4)));
                NAMES.put(call.group(1), answer);
            }
        }
    }

    private static int answerOf(HarvestBoxes farm, String name, String[] arguments) throws ReflectiveOperationException {
        for (Method method : HarvestBoxes.class.getMethods()) {
            if (method.getName().equals(name)) {
                Object[] values = new Object[method.getParameterCount()];
                for (int i = 0; i < values.length; i++) {
                    values[i] = valueOf(arguments[i], method.getParameterTypes()[i]);
                }
                try {
                    return (Integer) method.invoke(farm, values);
                } catch (InvocationTargetException e) {
                    throw new IllegalStateException("README.md: " + name + " throws", e.getCause());
                }
            }
        }
        throw new IllegalStateException("README.md: there is no " + name);
    }

    private static Object valueOf(String argument, Class<?> type) {
        if (type == boolean.class) {
            return Boolean.valueOf(argument);
        }
        long number = NAMES.containsKey(argument) ? NAMES.get(argument)
                : Long.parseLong(argument.replace("_", "").replace("L", ""));
        return type == long.class ? (Object) number : (Object) (int) number;
    }

    private static void farmAsText(String readme) {
        String text = "Fh20h10v13l009s1";
        Check.holds("README.md has a farm as a text", readme.contains("`" + text + "`"));
        HarvestBoxes farm = Check.farm(text);
        int[] due = {2, 1, 0, 0, 0, 0, 0, 0, 0, 1};
        for (int what = 0; what < due.length; what++) {
            Check.same("about(" + what + ") of it", farm.about(what), due[what]);
        }
        Check.same("the size of house 0", farm.house(0, 0), 2);
        Check.same("the size of house 1", farm.house(1, 0), 1);
        Check.same("house 1 skips", farm.house(1, 3), 1);
        Check.same("the harvest", farm.vegetable(0, 0), 13);
        Check.same("the liking of house 0", farm.liking(0, 0), 9);
        Check.same("the liking of house 1", farm.liking(1, 0), 5);
    }
}
