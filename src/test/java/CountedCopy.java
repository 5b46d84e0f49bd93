import java.io.IOException;
import java.nio.file.Files;
import java.nio.file.Path;
import java.util.ArrayList;
import java.util.List;

/**
 * Writes a copy of the program in which the 513th call of an object ends the test: the document promises nothing about
 * it, so no test may ask for it. The arguments are the program's file and the copy's.
 */
public final class CountedCopy {
    private static final String[] COUNTING = {
        "    private int callsSoFar;",
        "",
        "    private void countThisCall() {",
        "        callsSoFar++;",
        "        if (callsSoFar > 512) {",
        "            throw new Error(\"a test calls an object more than 512 times\");",
        "        }",
        "    }",
    };

    public static void main(String[] args) throws IOException {
        List<String> copy = new ArrayList<>();
        boolean isHead = false;
        for (String line : Files.readAllLines(Path.of(args[0]))) {
            // Only the methods of the face stand four blanks deep and answer an int in public.
            isHead = isHead || line.startsWith("    public int ");
            boolean bodyBegins = isHead && line.endsWith("{");
            copy.add(bodyBegins ? line + " countThisCall();" : line);
            isHead = isHead && !bodyBegins;
            if (line.equals("public final class HarvestBoxes {")) {
                copy.addAll(List.of(COUNTING));
            }
        }
        Files.write(Path.of(args[1]), copy);
    }
}
