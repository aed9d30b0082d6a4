import java.io.IOException;
import java.nio.file.Files;
import java.nio.file.Path;
import java.util.ArrayList;
import java.util.List;

/** The example of README.md: that it is run here line by line, and its answers. */
public final class ReadmeTest {
    private static final Checks CHECKS = new Checks();

    public static void main(String[] args) {
        example();
        exampleIsTheOneOfTheReadme();
        CHECKS.end();
    }

    private static void example() {
        TickLines x = new TickLines();

        x.write(0, 0x11);
        x.write(1, 0x20);
        x.write(1, 0x00);
        x.write(1, 0x00);
        x.write(2, 0x10);
        x.write(3, 0x28);
        x.write(3, 0x00);

        x.write(7, 0x34);
        x.write(4, 10);
        x.write(4, 0);
        int cameOn = x.tick(11);
        int timer = x.acknowledge();
        x.write(0, 0x20);

        x.line(1, 5, true);
        int level = x.chosen(0);
        int behind = x.acknowledge();
        x.write(2, 0x20);
        x.write(0, 0x20);

        x.line(0, 3, true);
        x.write(0, 0x0C);
        int polled = x.read(0);
        int vain = x.acknowledge();

        x.write(7, 0xC2);
        int status = x.read(4);
        int low = x.read(4);
        int high = x.read(4);

        told("int cameOn", cameOn);
        told("int timer", timer);
        told("int level", level);
        told("int behind", behind);
        told("int polled", polled);
        told("int vain", vain);
        told("int status", status);
        told("int low", low);
        told("int high", high);
    }

    /** That README.md tells this answer behind the line that begins so. */
    private static void told(String begin, int answer) {
        for (String line : exampleLines()) {
            if (line.startsWith(begin + " ")) {
                String comment = line.substring(line.indexOf("//") + 2).trim();
                CHECKS.text(begin, String.valueOf(answer), comment.split(":")[0]);
                return;
            }
        }
        CHECKS.yes("README.md has the line " + begin, false);
    }

    private static void exampleIsTheOneOfTheReadme() {
        List<String> here = linesOf("src/test/java/ReadmeTest.java");
        int at = here.indexOf("TickLines x = new TickLines();");
        for (String line : exampleLines()) {
            String code = line.replaceAll("//.*", "").trim();
            CHECKS.text("the line of the example here", here.get(at), code);
            at++;
        }
    }

    private static List<String> exampleLines() {
        List<String> all = linesOf("README.md");
        int begin = all.indexOf("```java") + 1;
        return all.subList(begin, begin + all.subList(begin, all.size()).indexOf("```"));
    }

    private static List<String> linesOf(String file) {
        List<String> lines = new ArrayList<>();
        try {
            for (String line : Files.readAllLines(Path.of(file))) {
                lines.add(line.trim());
            }
        } catch (IOException e) {
            throw new IllegalStateException(e);
        }
        return lines;
    }
}
