import java.io.IOException;
import java.nio.file.Files;
import java.nio.file.Path;
import java.util.ArrayList;
import java.util.List;

/** README.md: its example is the one below, word for word, and answers what it says. */
public final class ReadmeTest {
    private static final Due DUE = new Due();
    private static final Path README = Path.of("README.md");
    private static final Path OWN_SOURCE = Path.of("src/test/java/ReadmeTest.java");

    public static void main(String[] args) throws IOException {
        answersWhatItSays();
        isTheOneBelow();
        DUE.end();
    }

    private static void answersWhatItSays() {
        // README.md begins
        SureCount office = new SureCount();
        int race = office.race(2, 1);
        int box = office.box();
        for (int p = 0; p < 10; p++) {
            office.paper(box, p < 6 ? 1 : 2);
        }
        office.seal(7);
        int more = office.need(race, 500_000_000);
        office.draw(more);
        int next = office.waits();
        while (next != SureCount.NONE) {
            int paper = office.drawn(next);
            office.read(paper, 0, paper < 6 ? 1 : 2);
            next = office.waits();
        }
        int risk = office.risk(race);
        boolean wins = office.wins(race, 1, 1);
        // README.md ends
        DUE.is(8, "more", () -> more);
        DUE.is(466507382, "risk", () -> risk);
        DUE.is(true, "wins", () -> wins);
    }

    private static void isTheOneBelow() throws IOException {
        List<String> shown = between("```java", "```", README);
        List<String> run = between("// README.md begins", "// README.md ends", OWN_SOURCE);
        DUE.is(run, "the example in README.md", () -> shown);
        DUE.is(true, "the risk that it tells", () -> isSaid("// 466507382 billionths"));
        DUE.is(true, "the draws that it tells", () -> isSaid("// 8 draws"));
    }

    /** The lines between two others, without what is told about them. */
    private static List<String> between(String first, String last, Path file) throws IOException {
        List<String> lines = new ArrayList<>();
        boolean isWithin = false;
        for (String line : Files.readAllLines(file)) {
            String text = line.strip();
            if (isWithin && text.equals(last)) {
                break;
            }
            if (isWithin) {
                lines.add(text.replaceFirst(" *//.*", ""));
            }
            isWithin = isWithin || text.equals(first);
        }
        return lines;
    }

    private static boolean isSaid(String words) {
        try {
            return Files.readString(README).contains(words);
        } catch (IOException e) {
            return false;
        }
    }
}
