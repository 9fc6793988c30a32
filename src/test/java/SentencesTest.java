import java.io.IOException;
import java.nio.file.Files;
import java.nio.file.Path;
import java.util.List;
import java.util.stream.Collectors;
import java.util.stream.Stream;

/** Every section that names boundary cases is spoken of by a test that says its words; Due looks that they stand there. */
public final class SentencesTest {
    public static void main(String[] args) throws IOException {
        Due due = new Due();
        List<Path> files;
        try (Stream<Path> all = Files.list(Path.of("src", "test", "java"))) {
            files = all.sorted().collect(Collectors.toList());
        }
        StringBuilder tests = new StringBuilder();
        for (Path file : files) {
            tests.append(Files.readString(file));
        }
        due.holds("What it is", tests.indexOf("due.says(\"What it is\", ") >= 0);
        due.holds("Terms", tests.indexOf("due.says(\"Terms\", ") >= 0);
        for (int n = 1; n <= 19; n++) {
            due.holds("Promise " + n, tests.indexOf("due.says(\"Promise " + n + "\", ") >= 0);
        }
        due.end();
    }
}
