import java.io.IOException;
import java.nio.file.Files;
import java.nio.file.Path;

/** README.md's examples: each call with a number behind it answers that number. */
public final class ReadmeTest {
    public static void main(String[] args) throws IOException {
        String readme = Files.readString(Path.of("README.md"));
        first(readme);
        ofTexts(readme);
        Due.end();
    }

    // The call stands in README.md with this answer behind it, and answers it.
    private static void told(String readme, String call, long got, long want) {
        boolean there = false;
        for (String line : readme.split("\n")) {
            there |= line.startsWith("x." + call + ";") && line.matches(".*// " + want + "(:.*|)");
        }
        Due.is("README.md has x." + call + " with // " + want, there ? 1 : 0, 1);
        Due.is(call, got, want);
    }

    private static void first(String readme) {
        PlateRound x = new PlateRound(0);
        Due.is("seat(2)", x.seat(2), 0);
        Due.is("guest(0, 0, 5)", x.guest(0, 0, 5), 1);
        Due.is("lay(0)", x.lay(0), 0);
        told(readme, "tick(2)", x.tick(2), 1);
        told(readme, "seatTold(0, 6)", x.seatTold(0, 6), 100);
    }

    private static void ofTexts(String readme) {
        PlateRound x = new PlateRound(0);
        String text = "take 1; go eaten;";
        Due.is("README.md has " + text, readme.contains("\"" + text + "\"") ? 1 : 0, 1);
        for (int i = 0; i < text.length(); i++) {
            Due.is("feed(1, ..)", x.feed(1, text.charAt(i)), i + 1);
        }
        told(readme, "text()", x.text(), 1);
        told(readme, "force(1)", x.force(1), 0);
        Due.is("seat(1)", x.seat(1), 0);
        Due.is("guest(0, 1, 0)", x.guest(0, 1, 0), 1);
        told(readme, "worth(1, 0)", x.worth(1, 0), 100);
        told(readme, "ahead(1, 0, 0)", x.ahead(1, 0, 0), 0);
        Due.is("lay(0)", x.lay(0), 0);
        told(readme, "tick(1)", x.tick(1), 1);
        told(readme, "count(7)", x.count(7), 100);
    }
}
