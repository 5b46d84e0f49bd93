import java.io.IOException;
import java.lang.reflect.Constructor;
import java.lang.reflect.Field;
import java.lang.reflect.Method;
import java.lang.reflect.Modifier;
import java.nio.file.Files;
import java.nio.file.Path;
import java.util.ArrayList;
import java.util.Collections;
import java.util.List;

/** The public face: exactly what the document's "The public face" names, and nothing else that can be seen from outside. */
public final class FaceTest {
    private static final int METHODS = 28;
    private static final List<String> TOLD = new ArrayList<>();

    public static void main(String[] args) throws IOException {
        readFace();
        writtenAsTold();
        members();
        methods();
        classesInside();
        Check.end("FaceTest");
    }

    /** The lines of the document's class, from its head to the last method. */
    private static void readFace() throws IOException {
        boolean isCode = false;
        for (String line : Files.readAllLines(Path.of("../shared/DOC.md"))) {
            if (line.startsWith("```")) {
                isCode = line.equals("```java");
            } else if (isCode && !line.equals("}")) {
                TOLD.add(line.strip());
            }
        }
        Check.same("lines of the face", TOLD.size(), 3 + METHODS);
    }

    /** Each line stands in the program, with the names of its arguments, its exceptions and its constant's number. */
    private static void writtenAsTold() throws IOException {
        String program = Files.readString(Path.of("src/main/java/HarvestBoxes.java")).replaceAll("\\s+", " ");
        for (String line : TOLD) {
            String due = line.contains("(") ? line.replace(";", " {") : line;
            Check.holds("the program says " + due, program.contains(" " + due + " "));
        }
    }

    private static void members() {
        Class<HarvestBoxes> face = HarvestBoxes.class;
        Check.same("public and final", face.getModifiers(), Modifier.PUBLIC | Modifier.FINAL);
        Check.same("no package", face.getPackageName(), "");
        Check.same("it is nobody's child", face.getSuperclass().getName(), "java.lang.Object");
        Check.same("interfaces", face.getInterfaces().length, 0);
        Constructor<?>[] constructors = face.getDeclaredConstructors();
        Check.same("constructors", constructors.length, 1);
        Check.same("the constructor is public", constructors[0].getModifiers(), Modifier.PUBLIC);
        Check.same("arguments of the constructor", constructors[0].getParameterCount(), 0);
        for (Field field : face.getDeclaredFields()) {
            boolean isTold = field.getName().equals("NONE");
            Check.same("modifier of " + field.getName(), field.getModifiers() & (Modifier.PUBLIC | Modifier.PRIVATE),
                    isTold ? Modifier.PUBLIC : Modifier.PRIVATE);
            if (Modifier.isStatic(field.getModifiers())) {
                Check.same(field.getName() + " is final", field.getModifiers() & Modifier.FINAL, Modifier.FINAL);
            }
        }
        Check.same("NONE", HarvestBoxes.NONE, -9);
    }

    private static void methods() {
        List<String> due = new ArrayList<>();
        for (String line : TOLD) {
            if (line.startsWith("public int ")) {
                due.add(line.replaceAll(" [a-z]\\w*(?=[,)])", "").replace(", ", ",").replace(";", ""));
            }
        }
        List<String> got = new ArrayList<>();
        for (Method method : HarvestBoxes.class.getDeclaredMethods()) {
            if (Modifier.isPublic(method.getModifiers())) {
                got.add(method.toString().replace("HarvestBoxes.", "").replace("java.lang.", ""));
            } else {
                Check.same(method + " is private", method.getModifiers() & Modifier.PRIVATE, Modifier.PRIVATE);
                Check.holds(method + " bears no name of the face", !isOfFace(method.getName()));
            }
        }
        Collections.sort(due);
        Collections.sort(got);
        Check.same("the methods", got.toString(), due.toString());
        Check.same("how many they are", got.size(), METHODS);
    }

    /** Rules 1 and 11 of LANGUAGE.md. */
    private static void classesInside() {
        Class<?>[] inside = HarvestBoxes.class.getDeclaredClasses();
        Check.holds("at most twelve classes", inside.length <= 11);
        for (Class<?> one : inside) {
            Check.same(one + " is static", one.getModifiers() & Modifier.STATIC, Modifier.STATIC);
            Check.same(one + " is hidden", one.getModifiers() & (Modifier.PUBLIC | Modifier.PROTECTED), 0);
            for (Method method : one.getDeclaredMethods()) {
                Check.holds(method + " bears no name of the face", !isOfFace(method.getName()));
            }
        }
        fieldsAndParameters(HarvestBoxes.class);
        for (Class<?> one : inside) {
            fieldsAndParameters(one);
        }
    }

    private static void fieldsAndParameters(Class<?> one) {
        int fields = 0;
        for (Field field : one.getDeclaredFields()) {
            fields += Modifier.isStatic(field.getModifiers()) ? 0 : 1;
        }
        Check.holds(one + " has at most twenty fields", fields <= 20);
        for (Method method : one.getDeclaredMethods()) {
            Check.holds(method + " has at most seven parameters", method.getParameterCount() <= 7);
        }
    }

    private static boolean isOfFace(String name) {
        for (String line : TOLD) {
            if (line.contains(" " + name + "(")) {
                return true;
            }
        }
        return false;
    }
}
