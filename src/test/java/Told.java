import java.util.ArrayList;
import java.util.List;

/** All that an office tells, a call and its answer a line. */
final class Told {
    // An object's 512 calls, less those that made the office what it is.
    private static final int MOST_CALLS = 512 - 80;

    private final SureCount x;
    private final List<String> lines = new ArrayList<>();

    private Told(SureCount x) {
        this.x = x;
    }

    /** The work between the two rounds of questions brings to light what no question shows, such as the dice. */
    static List<String> all(SureCount x) {
        Told told = new Told(x);
        told.questions();
        told.work();
        told.questions();
        if (told.lines.size() > MOST_CALLS) {
            throw new IllegalStateException("the test asks an object for more than its 512 calls");
        }
        return told.lines;
    }

    private void questions() {
        int races = tell("count(0)", () -> x.count(0));
        int boxes = tell("count(1)", () -> x.count(1));
        int papers = tell("count(2)", () -> x.count(2));
        tell("count(3)", () -> x.count(3));
        int draws = tell("count(4)", () -> x.count(4));
        tell("count(5)", () -> x.count(5));
        tell("count(6)", () -> x.count(6));
        tell("waits()", x::waits);
        for (int b = -1; b < boxes; b++) {
            int box = b;
            tell("pulled(" + b + ")", () -> x.pulled(box));
        }
        for (int d = 0; d < draws; d++) {
            int draw = d;
            tell("drawn(" + d + ")", () -> x.drawn(draw));
        }
        for (int race = 0; race < races; race++) {
            votesOf(race);
            risksOf(race, draws);
            readingsOf(race, papers);
        }
    }

    private void votesOf(int race) {
        tell("about(" + race + ", 0)", () -> x.about(race, 0));
        tell("about(" + race + ", 1)", () -> x.about(race, 1));
        int candidates = tell("about(" + race + ", 2)", () -> x.about(race, 2));
        tell("about(" + race + ", 3)", () -> x.about(race, 3));
        for (int c = 1; c <= candidates; c++) {
            int candidate = c;
            tell("votes(" + race + ", " + c + ", 0)", () -> x.votes(race, candidate, 0));
            tell("votes(" + race + ", " + c + ", 1)", () -> x.votes(race, candidate, 1));
            tell("wins(" + race + ", " + c + ", 0)", () -> x.wins(race, candidate, 0));
            tell("wins(" + race + ", " + c + ", 1)", () -> x.wins(race, candidate, 1));
        }
    }

    private void risksOf(int race, int draws) {
        tell("risk(" + race + ")", () -> x.risk(race));
        tell("taken(" + race + ")", () -> x.taken(race));
        tell("need(" + race + ", 500000000)", () -> x.need(race, 500_000_000));
        for (int d = 0; d < draws; d++) {
            int draw = d;
            tell("taint(" + race + ", " + d + ")", () -> x.taint(race, draw));
        }
    }

    private void readingsOf(int race, int papers) {
        for (int p = 0; p < papers; p++) {
            int paper = p;
            tell("reading(" + p + ", " + race + ")", () -> x.reading(paper, race));
        }
    }

    private void work() {
        tell("race(3, 2)", () -> x.race(3, 2));
        tell("box()", x::box);
        tell("paper(0, 0)", () -> x.paper(0, 0));
        // Ahead of the seal too: a seed that a refused seal left behind would be hidden by the next one.
        tell("draw(2)", () -> x.draw(2));
        tell("seal(99)", () -> x.seal(99));
        tell("draw(2)", () -> x.draw(2));
        int papers = tell("count(2)", () -> x.count(2));
        for (int p = 0; p < papers; p++) {
            for (int h = 0; h <= 2; h++) {
                int paper = p;
                int hand = h;
                tell("read(" + p + ", " + h + ", 0)", () -> x.read(paper, hand, 0));
            }
        }
    }

    /** The answer, where it is a number; else 0. */
    private int tell(String call, Due.Call made) {
        Object[] answer = new Object[1];
        lines.add(call + " " + Due.told(() -> answer[0] = made.answer()));
        return answer[0] instanceof Integer number ? number : 0;
    }
}
