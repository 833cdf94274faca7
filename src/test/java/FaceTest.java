import java.io.IOException;
import java.lang.reflect.Field;
import java.lang.reflect.Method;
import java.lang.reflect.Modifier;
import java.nio.file.Files;
import java.nio.file.Path;
import java.util.Arrays;
import java.util.Set;
import java.util.TreeSet;

/** The public face of the document, and what LANGUAGE.md rules out and can be seen without running. */
public final class FaceTest {
    private static final Set<String> CALLS = new TreeSet<>(Arrays.asList(
            "seed(int)", "ground(int,int)", "size(int)", "window(int,int)", "change(int,int)", "changed(int,int)",
            "undo()", "rule(int,int)", "about(int,int)", "is(int)", "many(int)", "lakes()", "lake(int)",
            "towns(int)", "town(int)", "cost(int,int)", "way(int,int,int)", "net(int)", "roads(int)", "told(int)"));
    private static final Set<String> CONSTANTS = new TreeSet<>(Arrays.asList("NONE", "UNKNOWN", "OUTSIDE", "FULL"));
    private static final String[] RULED_OUT = {"catch", "throw", "finally", "synchronized", "assert", "->", "::",
            "equals(", "hashCode", "toString", "Exact", "System.", "Random", "Object", "double", "float",
            "MAX_VALUE", "MIN_VALUE", "instanceof", "String", "Iterator", "List", "% "};
    private static final int MOST_CLASSES = 12, MOST_FIELDS = 20, MOST_PARAMETERS = 7, MOST_LINES = 60;

    public static void main(String[] args) throws IOException {
        Checks checks = new Checks();
        checks.of("the face");
        checks.due("public and final", MadeLand.class.getModifiers(), Modifier.PUBLIC | Modifier.FINAL);
        checks.due("constructors", MadeLand.class.getDeclaredConstructors().length, 1);
        checks.due("public constructors", MadeLand.class.getConstructors().length, 1);
        checkMethods(checks);
        checkFields(checks);
        checkClasses(checks);
        checkSource(checks);
        checkMaking(checks);
        checkLengths(checks);
        checks.end();
    }

    private static void checkMethods(Checks checks) {
        Set<String> found = new TreeSet<>();
        Set<String> publicNames = new TreeSet<>();
        for (Method method : MadeLand.class.getDeclaredMethods()) {
            if (!Modifier.isPrivate(method.getModifiers()) && !method.isSynthetic()) {
                found.add(textOf(method));
                publicNames.add(method.getName());
                checks.due(method + " is public", method.getModifiers(), Modifier.PUBLIC);
                checks.due(method + " answers int", method.getReturnType() == int.class ? 1 : 0, 1);
            }
        }
        checks.due("the calls are those of the document: " + found, found.equals(CALLS) ? 1 : 0, 1);
        for (Class<?> inside : MadeLand.class.getDeclaredClasses()) {
            for (Method method : inside.getDeclaredMethods()) {
                checks.due("the name of " + method + " is free", publicNames.contains(method.getName()) ? 1 : 0, 0);
            }
        }
        for (Method method : MadeLand.class.getDeclaredMethods()) {
            if (Modifier.isPrivate(method.getModifiers())) {
                checks.due("the name of " + method + " is free", publicNames.contains(method.getName()) ? 1 : 0, 0);
            }
        }
    }

    private static String textOf(Method method) {
        StringBuilder text = new StringBuilder(method.getName()).append('(');
        for (Class<?> type : method.getParameterTypes()) {
            text.append(text.charAt(text.length() - 1) == '(' ? "" : ",").append(type.getName());
        }
        return text.append(')').toString();
    }

    private static void checkFields(Checks checks) {
        Set<String> found = new TreeSet<>();
        for (Field field : MadeLand.class.getDeclaredFields()) {
            if (!Modifier.isPrivate(field.getModifiers()) && !field.isSynthetic()) {
                found.add(field.getName());
            }
            boolean isLooseStatic = Modifier.isStatic(field.getModifiers()) && !Modifier.isFinal(field.getModifiers());
            checks.due("a static field that is not final: " + field, isLooseStatic ? 1 : 0, 0);
        }
        checks.due("the constants are those of the document: " + found, found.equals(CONSTANTS) ? 1 : 0, 1);
        checks.due("NONE", MadeLand.NONE, -6);
        checks.due("UNKNOWN", MadeLand.UNKNOWN, -1);
        checks.due("OUTSIDE", MadeLand.OUTSIDE, -2);
        checks.due("FULL", MadeLand.FULL, -4);
    }

    /** Rules 2, 5 and 11 for the classes inside. */
    private static void checkClasses(Checks checks) {
        Class<?>[] inside = MadeLand.class.getDeclaredClasses();
        checks.due("not too many classes", inside.length < MOST_CLASSES ? 1 : 0, 1);
        for (Class<?> one : inside) {
            checks.due(one + " is private and static", one.getModifiers() & (Modifier.PRIVATE | Modifier.STATIC),
                    Modifier.PRIVATE | Modifier.STATIC);
            int fields = 0;
            for (Field field : one.getDeclaredFields()) {
                boolean isStatic = Modifier.isStatic(field.getModifiers());
                fields += isStatic ? 0 : 1;
                checks.due(field + " is final, if static", isStatic && !Modifier.isFinal(field.getModifiers()) ? 1 : 0, 0);
            }
            checks.due("not too many fields in " + one, fields <= MOST_FIELDS ? 1 : 0, 1);
            for (Method method : one.getDeclaredMethods()) {
                checks.due("not too many parameters: " + method, method.getParameterCount() <= MOST_PARAMETERS ? 1 : 0, 1);
            }
        }
    }

    /** Rows are made with the object alone: no call makes anything, however often it comes. */
    private static void checkMaking(Checks checks) throws IOException {
        for (String line : Files.readAllLines(Path.of("src/main/java/MadeLand.java"))) {
            String text = line.trim();
            if (text.contains("new ")) {
                checks.due("made with the object: " + text,
                        text.startsWith("private final ") || text.startsWith("cells = new int[") ? 1 : 0, 1);
            }
        }
    }

    /** A member, of the class or of one inside it, begins at the indentation of four or of eight. */
    private static void checkLengths(Checks checks) throws IOException {
        int length = 0;
        int greatest = 0;
        for (String line : Files.readAllLines(Path.of("src/main/java/MadeLand.java"))) {
            boolean isMember = line.matches("( {4}| {8})[a-z].*\\{");
            length = isMember ? 1 : length + 1;
            greatest = line.matches("( {4}| {8})\\}") ? Math.max(greatest, length) : greatest;
        }
        checks.due("a method's lines are few: " + greatest, greatest > 1 && greatest <= MOST_LINES ? 1 : 0, 1);
    }

    private static void checkSource(Checks checks) throws IOException {
        String source = Files.readString(Path.of("src/main/java/MadeLand.java"));
        for (String word : RULED_OUT) {
            checks.due("where the source has " + word, source.indexOf(word), -1);
        }
    }
}
