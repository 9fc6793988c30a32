import java.io.IOException;
import java.nio.file.Files;
import java.nio.file.Path;
import java.util.regex.Matcher;
import java.util.regex.Pattern;

/** README.md tells each method of the document's face as it stands there, and its example answers what it says. */
public final class ReadmeTest {
    private static final Due due = new Due();

    public static void main(String[] args) throws IOException {
        String readme = Files.readString(Path.of("README.md"));
        face(readme);
        example(readme);
        due.holds("how the tests are run", readme.contains("\n.ci/run\n"));
        due.end();
    }

    private static void face(String readme) throws IOException {
        String doc = Files.readString(Path.of("..", "shared", "DOC.md"));
        due.holds("how an object is made", readme.contains("new FrontDoor()"));
        Matcher m = Pattern.compile("public int (\\w+\\([^)]*\\));").matcher(doc);
        int found = 0;
        while (m.find()) {
            found++;
            due.holds(m.group(1) + " has a row", readme.contains("\n| `" + m.group(1) + "` | "));
        }
        due.is("methods of the face", found, 18);
    }

    /** Each line of the example that tells an answer, next to the same call made here. */
    private static void example(String readme) {
        String block = readme.substring(readme.indexOf("```java") + 7);
        block = block.substring(0, block.indexOf("```"));
        FrontDoor door = new FrontDoor();
        int a = door.server(3, 0, 2, 5, 0);
        int b = door.server(1, 1, 2, 5, 0);
        int c = door.call(7, 0, 100, true);
        told(block, "int a = door.server(3, 0, 2, 5, 0);", a);
        told(block, "int b = door.server(1, 1, 2, 5, 0);", b);
        told(block, "int c = door.call(7, 0, 100, true);", c);
        told(block, "door.callOf(c, 0);", door.callOf(c, 0));
        told(block, "door.ticks(5);", door.ticks(5));
        told(block.substring(block.indexOf("door.ticks(5);")), "door.callOf(c, 0);", door.callOf(c, 0));
        told(block, "door.callOf(c, 6);", door.callOf(c, 6));
        told(block, "door.share(a);", door.share(a));
        told(block, "door.drain(b);", door.drain(b));
        told(block, "door.call(-1, 0, 100, true);", door.call(-1, 0, 100, true));
        told(block, "door.count(14);", door.count(14));
        due.is("lines that tell an answer", block.split("//").length - 1, 11);
    }

    private static void told(String block, String line, int got) {
        Matcher m = Pattern.compile(Pattern.quote(line) + " +// (-?\\d+)\\b").matcher(block);
        boolean there = m.find();
        due.holds("the example has " + line, there);
        if (there) {
            due.is(line, got, Integer.parseInt(m.group(1)));
        }
    }
}
