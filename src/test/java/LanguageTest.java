import java.io.IOException;
import java.nio.file.Files;
import java.nio.file.Path;
import java.util.List;
import java.util.regex.Pattern;

/** What a look at the text of the program can tell of ../shared/LANGUAGE.md. It is run from the project's folder. */
public final class LanguageTest {
    private static final String[] FORBIDDEN = {"->", "::", "\\btry\\b", "\\bcatch\\b", "\\bfinally\\b", "\\bsynchronized\\b",
        "\\bassert\\b", "\\bstatic \\{", "\\bpackage\\b", "Exact\\(", "\\bSystem\\.(?!arraycopy)", "\\bprotected\\b",
        "\\bString\\.", "\\bHashMap\\b", "\\bMath\\.(?!min\\(|max\\()", "\\bArrays\\.(?!fill\\()", "\\brecord\\b",
        "\" \\+|\\+ \"", "\\btoString\\b", "\\bequals\\b", "\\bhashCode\\b", "\\bvar\\b"};

    public static void main(String[] args) throws IOException {
        List<String> lines = Files.readAllLines(Path.of("src/main/java/HarvestBoxes.java"));
        int imports = 0;
        for (String line : lines) {
            String code = line.strip();
            boolean isComment = code.startsWith("//") || code.startsWith("*") || code.startsWith("/**");
            for (String forbidden : FORBIDDEN) {
                boolean stands = !isComment && Pattern.compile(forbidden).matcher(code).find();
                Check.same(forbidden + " in: " + code, stands ? 1 : 0, 0);
            }
            imports += code.startsWith("import ") ? 1 : 0;
            Check.same("signs of: " + code, code.chars().allMatch(sign -> sign > 0 && sign < 128) ? 1 : 0, 1);
            throwsAsWritten(code);
        }
        Check.same("imports", imports, 1);
        Check.same("the import", lines.get(0), "import java.util.Arrays;");
        Check.end("LanguageTest");
    }

    private static void throwsAsWritten(String code) {
        if (code.matches(".*\\bthrow\\b.*")) {
            boolean isWritten = code.matches("(default: )?throw new "
                    + "(IllegalStateException|IllegalArgumentException|IndexOutOfBoundsException)\\(\"[^\"]+\"\\);");
            Check.same("throws: " + code, isWritten ? 1 : 0, 1);
        }
    }
}
