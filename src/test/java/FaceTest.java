import java.lang.reflect.Constructor;
import java.lang.reflect.Method;
import java.lang.reflect.Modifier;
import java.lang.reflect.Field;
import java.nio.file.Files;
import java.nio.file.Path;
import java.util.Arrays;
import java.util.TreeSet;
import java.util.regex.Pattern;

/** The public face is the document's and no more, and the file keeps to those rules of the language that can be read off. */
public final class FaceTest {
    private static final String[] FACE = {
        "back(int)", "budget(int)", "call(int,int,int,boolean)", "callOf(int,int)", "count(int)", "drain(int)",
        "hedge(int)", "limit(int)", "mark(int,int)", "off(int)", "pick(int)", "queue(int)", "rule(int)",
        "server(int,int,int,int,int)", "serverOf(int,int)", "set(int,int,int)", "share(int)", "ticks(int)"};
    private static final String[] FORBIDDEN = {
        "throw", "try", "catch", "synchronized", "assert", "package", "->", "::", "hashCode", "toString", "random",
        "currentTimeMillis", "nanoTime", "Thread", "Exact"};

    public static void main(String[] args) throws Exception {
        Due due = new Due();
        face(due);
        source(due);
        due.end();
    }

    private static void face(Due due) {
        Class<?> c = FrontDoor.class;
        due.holds("public and final", Modifier.isPublic(c.getModifiers()) && Modifier.isFinal(c.getModifiers()));
        TreeSet<String> shown = new TreeSet<>();
        TreeSet<String> names = new TreeSet<>();
        for (Method m : c.getDeclaredMethods()) {
            if (Modifier.isPublic(m.getModifiers())) {
                String text = m.toString();
                shown.add(m.getName() + text.substring(text.indexOf('(')));
                names.add(m.getName());
                due.holds(m + " answers an int", m.getReturnType() == int.class);
            } else {
                due.holds(m + " is private", Modifier.isPrivate(m.getModifiers()));
            }
        }
        due.holds("the methods are the document's: " + shown, shown.equals(new TreeSet<>(Arrays.asList(FACE))));
        for (Method m : c.getDeclaredMethods()) {
            due.holds(m + " bears no public name", Modifier.isPublic(m.getModifiers()) || !names.contains(m.getName()));
        }
        Constructor<?>[] made = c.getDeclaredConstructors();
        due.holds("one public constructor without arguments", made.length == 1 && made[0].getParameterCount() == 0
            && Modifier.isPublic(made[0].getModifiers()));
        for (Field f : c.getDeclaredFields()) {
            int how = f.getModifiers();
            due.holds(f + " is private", Modifier.isPrivate(how));
            due.holds(f + " is final if static", !Modifier.isStatic(how) || Modifier.isFinal(how));
        }
        for (Class<?> inside : c.getDeclaredClasses()) {
            due.holds(inside + " is static", Modifier.isStatic(inside.getModifiers()));
        }
    }

    private static void source(Due due) throws Exception {
        String text = Files.readString(Path.of("src/main/java/FrontDoor.java"));
        String code = text.replaceAll("(?s)/\\*.*?\\*/", "").replaceAll("//[^\n]*", "");
        for (String word : FORBIDDEN) {
            boolean letters = Character.isLetter(word.charAt(0));
            String asWord = letters ? "\\b\\w*" + Pattern.quote(word) + "\\b" : Pattern.quote(word);
            due.holds("no " + word, !Pattern.compile(asWord).matcher(code).find());
        }
        for (String line : code.split("\n")) {
            due.holds("imports lists alone: " + line, !line.startsWith("import ") || line.equals("import java.util.ArrayList;"));
        }
    }
}
