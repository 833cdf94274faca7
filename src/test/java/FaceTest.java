import java.io.IOException;
import java.lang.reflect.Field;
import java.lang.reflect.Method;
import java.lang.reflect.Modifier;
import java.nio.file.Files;
import java.nio.file.Path;
import java.util.Arrays;
import java.util.Set;
import java.util.TreeSet;

/** The public face of the document, and what LANGUAGE.md rules out and can be seen without running. */
public final class FaceTest {
    private static final Set<String> CALLS = new TreeSet<>(Arrays.asList(
            "seed(int)", "ground(int,int)", "size(int)", "window(int,int)", "change(int,int)", "changed(int,int)",
            "undo()", "rule(int,int)", "about(int,int)", "is(int)", "many(int)", "lakes()", "lake(int)",
            "towns(int)", "town(int)", "cost(int,int)", "way(int,int,int)", "net(int)", "roads(int)", "told(int)"));
    private static final Set<String> CONSTANTS = new TreeSet<>(Arrays.asList("NONE", "UNKNOWN", "OUTSIDE", "FULL"));
    private static final String[] RULED_OUT = {"catch", "throw", "finally", "synchronized", "assert", "->", "::",
            "equals(", "hashCode", "toString", "Exact", "System.", "Random", "Object", "double", "float"};

    public static void main(String[] args) throws IOException {
        Checks checks = new Checks();
        checks.of("the face");
        checks.due("public and final", MadeLand.class.getModifiers(), Modifier.PUBLIC | Modifier.FINAL);
        checks.due("constructors", MadeLand.class.getDeclaredConstructors().length, 1);
        checks.due("public constructors", MadeLand.class.getConstructors().length, 1);
        checkMethods(checks);
        checkFields(checks);
        checkSource(checks);
        checks.end();
    }

    private static void checkMethods(Checks checks) {
        Set<String> found = new TreeSet<>();
        Set<String> publicNames = new TreeSet<>();
        for (Method method : MadeLand.class.getDeclaredMethods()) {
            if (!Modifier.isPrivate(method.getModifiers()) && !method.isSynthetic()) {
                found.add(textOf(method));
                publicNames.add(method.getName());
                checks.due(method + " is public", method.getModifiers(), Modifier.PUBLIC);
                checks.due(method + " answers int", method.getReturnType() == int.class ? 1 : 0, 1);
            }
        }
        checks.due("the calls are those of the document: " + found, found.equals(CALLS) ? 1 : 0, 1);
        for (Class<?> inside : MadeLand.class.getDeclaredClasses()) {
            for (Method method : inside.getDeclaredMethods()) {
                checks.due("the name of " + method + " is free", publicNames.contains(method.getName()) ? 1 : 0, 0);
            }
        }
        for (Method method : MadeLand.class.getDeclaredMethods()) {
            if (Modifier.isPrivate(method.getModifiers())) {
                checks.due("the name of " + method + " is free", publicNames.contains(method.getName()) ? 1 : 0, 0);
            }
        }
    }

    private static String textOf(Method method) {
        StringBuilder text = new StringBuilder(method.getName()).append('(');
        for (Class<?> type : method.getParameterTypes()) {
            text.append(text.charAt(text.length() - 1) == '(' ? "" : ",").append(type.getName());
        }
        return text.append(')').toString();
    }

    private static void checkFields(Checks checks) {
        Set<String> found = new TreeSet<>();
        for (Field field : MadeLand.class.getDeclaredFields()) {
            if (!Modifier.isPrivate(field.getModifiers()) && !field.isSynthetic()) {
                found.add(field.getName());
            }
            boolean isLooseStatic = Modifier.isStatic(field.getModifiers()) && !Modifier.isFinal(field.getModifiers());
            checks.due("a static field that is not final: " + field, isLooseStatic ? 1 : 0, 0);
        }
        checks.due("the constants are those of the document: " + found, found.equals(CONSTANTS) ? 1 : 0, 1);
        checks.due("NONE", MadeLand.NONE, -6);
        checks.due("UNKNOWN", MadeLand.UNKNOWN, -1);
        checks.due("OUTSIDE", MadeLand.OUTSIDE, -2);
        checks.due("FULL", MadeLand.FULL, -4);
    }

    private static void checkSource(Checks checks) throws IOException {
        String source = Files.readString(Path.of("src/main/java/MadeLand.java"));
        for (String word : RULED_OUT) {
            checks.due("where the source has " + word, source.indexOf(word), -1);
        }
    }
}
