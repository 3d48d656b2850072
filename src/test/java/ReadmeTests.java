import java.io.ByteArrayOutputStream;
import java.io.IOException;
import java.io.PrintStream;
import java.nio.charset.StandardCharsets;
import java.nio.file.Files;
import java.nio.file.Path;

/** What README.md shows is true: its program is ReadmeExample, and prints what the README says. */
public final class ReadmeTests {
    private ReadmeTests() {
    }

    private static String read(String file) throws IOException {
        return Files.readString(Path.of(file), StandardCharsets.UTF_8);
    }

    /** The first block of a language in the README. */
    private static String block(String readme, String language) {
        String start = "```" + language + "\n";
        int from = readme.indexOf(start) + start.length();
        int to = readme.indexOf("```", from);
        return readme.contains(start) && to >= 0 ? readme.substring(from, to) : "no block of " + language;
    }

    private static String printedByExample() {
        PrintStream before = System.out;
        ByteArrayOutputStream printed = new ByteArrayOutputStream();
        System.setOut(new PrintStream(printed, true, StandardCharsets.UTF_8));
        try {
            ReadmeExample.main(new String[0]);
        } finally {
            System.setOut(before);
        }
        return printed.toString(StandardCharsets.UTF_8).replace(System.lineSeparator(), "\n");
    }

    /** The texts of the README's table of parts; each one is read behind caps, the caps alone. */
    private static void readParts(String readme) {
        String caps = "caps 3 3 2 3 3;";
        for (String part : new String[] {"", "period 4;", "goal 3;", "reserve 1 1;", "turn 2;", "stack 0 bba;"}) {
            Checks.dueTrue("the README tells " + part, readme.contains("| `" + (part.isEmpty() ? caps : part) + "` |"));
            Checks.due(part, Checks.load(new TowerRing(), caps + part), part.startsWith("stack") ? "3" : "0");
        }
    }

    public static void main(String[] args) throws IOException {
        Checks.begin("README.md");
        String readme = read("README.md");
        Checks.due("the program", block(readme, "java"), read("src/test/java/ReadmeExample.java"));
        Checks.due("what it prints", printedByExample(), block(readme, "text"));
        readParts(readme);
        Checks.end();
    }
}
