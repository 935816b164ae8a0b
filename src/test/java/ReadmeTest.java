import java.io.ByteArrayOutputStream;
import java.io.IOException;
import java.io.PrintStream;
import java.nio.charset.StandardCharsets;
import java.nio.file.Files;
import java.nio.file.Path;

/** README.md's example is the one that is compiled here, and it prints what README.md says. */
public final class ReadmeTest {
    public static void main(String[] args) throws IOException {
        String readme = Files.readString(Path.of("README.md"));
        String example = Files.readString(Path.of("src/test/java/Example.java"));
        Kit.due("README.md shows Example.java", "yes", readme.contains("```java\n" + example + "```") ? "yes" : "no");
        String printed = printed();
        Kit.due("README.md shows what it prints", "yes", readme.contains("```text\n" + printed + "```") ? "yes" : printed);
        Kit.due("README.md says how to run the tests", "yes", readme.contains("    .ci/run\n") ? "yes" : "no");
        Kit.close();
    }

    private static String printed() {
        PrintStream usual = System.out;
        ByteArrayOutputStream kept = new ByteArrayOutputStream();
        System.setOut(new PrintStream(kept, true, StandardCharsets.UTF_8));
        Example.main(new String[0]);
        System.setOut(usual);
        return kept.toString(StandardCharsets.UTF_8).replace("\r", "");
    }
}
