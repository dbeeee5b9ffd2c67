import java.io.IOException;
import java.nio.file.Files;
import java.nio.file.Path;

/** What README.md shows under 'How to use it' answers as it says there, and it names the tests that there are. */
public final class ReadmeTest {
    private ReadmeTest() {
    }

    public static void main(String[] args) throws IOException {
        String readme = Files.readString(Path.of("README.md"));
        example(readme);
        tests(readme);
        Due.end();
    }

    private static void shows(String readme, String line) {
        Due.is("README.md shows " + line, readme.contains(line) ? 1 : 0, 1);
    }

    private static void example(String readme) {
        ClockKeeper k = new ClockKeeper();
        shows(readme, "k.feed(0x72756e20, 0x323b6261, 0x73652031, 0x303b0000, 0);   // \"run 2;base 10;\"");
        k.feed(0x72756e20, 0x323b6261, 0x73652031, 0x303b0000, 0);
        shows(readme, "int clock = k.clock(5, 5, 14);   // 0,");
        int clock = k.clock(5, 5, 14);
        Due.is("clock(5, 5, 14)", clock, 0);
        shows(readme, "k.wait(60);");
        Due.is("wait(60)", k.wait(60), 60);
        shows(readme, "k.dial(clock);                   // 3600036 ");
        Due.is("dial(clock)", k.dial(clock), 3600036);
        shows(readme, "k.sounding(0, 3);                // 1:");
        Due.is("sounding(0, 3)", k.sounding(0, 3), 1);
    }

    private static void tests(String readme) throws IOException {
        try (var all = Files.newDirectoryStream(Path.of("src/test/java"), "*Test.java")) {
            for (Path p : all) {
                String name = p.getFileName().toString().replace(".java", "");
                boolean named = name.matches("Promise\\d\\d.*") || readme.contains("| " + name + " |");
                Due.is("README.md names " + name, named ? 1 : 0, 1);
            }
        }
    }
}
