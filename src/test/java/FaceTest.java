import java.lang.reflect.Constructor;
import java.lang.reflect.Field;
import java.lang.reflect.Method;
import java.lang.reflect.Modifier;
import java.util.ArrayList;
import java.util.Collections;
import java.util.List;

/** The public face: exactly what the document names, and nothing else that can be seen from outside. */
public final class FaceTest {
    private static final String[] METHODS = {"append(int)", "clearText()", "errorPosition()", "load()", "about(int)",
        "house(int,int)", "vegetable(int,int)", "box(int,int)", "liking(int,int)", "order(int)", "addHouse(int)",
        "addVegetable(int)", "setHarvest(int,int)", "setLiking(int,int,int)", "skip(int,boolean)", "pack()",
        "returnCrates(int,int)", "give(int,int,int)", "undo()", "wouldGet(int,int)", "wouldBe(int)", "bestSkip()",
        "bestMore()", "firstSwap()", "runScript(int,long)", "simulate(long,int)", "save(int)", "restore(int)"};

    public static void main(String[] args) {
        members();
        methods();
        classesInside();
        Check.end("FaceTest");
    }

    private static void members() {
        Class<HarvestBoxes> face = HarvestBoxes.class;
        Check.same("public and final", face.getModifiers(), Modifier.PUBLIC | Modifier.FINAL);
        Constructor<?>[] constructors = face.getDeclaredConstructors();
        Check.same("constructors", constructors.length, 1);
        Check.same("the constructor is public", constructors[0].getModifiers(), Modifier.PUBLIC);
        for (Field field : face.getDeclaredFields()) {
            boolean isTold = field.getName().equals("NONE");
            Check.same("modifier of " + field.getName(), field.getModifiers() & (Modifier.PUBLIC | Modifier.PRIVATE),
                    isTold ? Modifier.PUBLIC : Modifier.PRIVATE);
            if (Modifier.isStatic(field.getModifiers())) {
                Check.same(field.getName() + " is final", field.getModifiers() & Modifier.FINAL, Modifier.FINAL);
            }
        }
    }

    private static void methods() {
        List<String> due = new ArrayList<>(List.of(METHODS));
        List<String> got = new ArrayList<>();
        for (Method method : HarvestBoxes.class.getDeclaredMethods()) {
            if (Modifier.isPublic(method.getModifiers())) {
                String whole = method.toString();
                got.add(whole.substring(whole.indexOf("HarvestBoxes.") + 13, whole.indexOf(')') + 1));
                Check.same(whole + " answers", method.getReturnType().getName(), "int");
                Check.same(whole + " is no static one", method.getModifiers(), Modifier.PUBLIC);
            } else {
                Check.same(method + " is private", method.getModifiers() & Modifier.PRIVATE, Modifier.PRIVATE);
                Check.same(method + " bears no name of the face", countOf(method.getName()), 0);
            }
        }
        Collections.sort(due);
        Collections.sort(got);
        Check.same("the methods", got.toString(), due.toString());
    }

    /** Rules 1 and 11 of LANGUAGE.md. */
    private static void classesInside() {
        Class<?>[] inside = HarvestBoxes.class.getDeclaredClasses();
        Check.same("at most twelve classes", inside.length <= 11 ? 1 : 0, 1);
        for (Class<?> one : inside) {
            Check.same(one + " is static", one.getModifiers() & Modifier.STATIC, Modifier.STATIC);
            Check.same(one + " is hidden", one.getModifiers() & (Modifier.PUBLIC | Modifier.PROTECTED), 0);
            for (Method method : one.getDeclaredMethods()) {
                Check.same(method + " bears no name of the face", countOf(method.getName()), 0);
            }
        }
        fieldsAndParameters(HarvestBoxes.class);
        for (Class<?> one : inside) {
            fieldsAndParameters(one);
        }
    }

    private static void fieldsAndParameters(Class<?> one) {
        int fields = 0;
        for (Field field : one.getDeclaredFields()) {
            fields += Modifier.isStatic(field.getModifiers()) ? 0 : 1;
        }
        Check.same(one + " has at most twenty fields", fields <= 20 ? 1 : 0, 1);
        for (Method method : one.getDeclaredMethods()) {
            Check.same(method + " has at most seven parameters", method.getParameterCount() <= 7 ? 1 : 0, 1);
        }
    }

    private static int countOf(String name) {
        int count = 0;
        for (String method : METHODS) {
            if (method.startsWith(name + "(")) {
                count++;
            }
        }
        return count;
    }
}
