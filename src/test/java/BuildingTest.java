/** Promises 1 to 6 and 20: a new object, race, box, paper, lose, seal, count. */
public final class BuildingTest {
    private static final Due DUE = new Due();

    public static void main(String[] args) {
        promise1NewObject();
        promise2Race();
        promise2NoRaceBehindPapers();
        promise3Box();
        promise4PaperWords();
        promise4PaperLimits();
        promise5Lose();
        promise6Seal();
        promise20Count();
        DUE.end();
    }

    private static void promise1NewObject() {
        SureCount x = new SureCount();
        for (int what = 0; what <= 6; what++) {
            int asked = what;
            DUE.is(0, "new: count(" + what + ")", () -> x.count(asked));
        }
        DUE.is(-1, "NONE", () -> SureCount.NONE);
        DUE.is(-1, "new: waits()", x::waits);
        DUE.is(0, "new: pulled(NONE)", () -> x.pulled(SureCount.NONE));
        DUE.is(-1, "new: draw(0)", () -> x.draw(0));
        DUE.noSuchElement("new: paper(0, 0)", () -> x.paper(0, 0));
        DUE.noSuchElement("new: about(0, 0)", () -> x.about(0, 0));
        DUE.noSuchElement("new: drawn(0)", () -> x.drawn(0));
        DUE.is(0, "new: box() is the first", x::box);
        DUE.is(0, "another new: race(2, 1) is the first", () -> new SureCount().race(2, 1));
    }

    private static void promise2Race() {
        SureCount x = new SureCount();
        DUE.is(-1, "race(1, 1)", () -> x.race(1, 1));
        DUE.is(-1, "race(1, 0)", () -> x.race(1, 0));
        DUE.is(-1, "race(7, 1)", () -> x.race(7, 1));
        DUE.is(-1, "race(2, 0)", () -> x.race(2, 0));
        DUE.is(-1, "race(2, 2)", () -> x.race(2, 2));
        DUE.is(-1, "race(6, 6)", () -> x.race(6, 6));
        DUE.is(-1, "race(6, -1)", () -> x.race(6, -1));
        DUE.is(-1, "race(min, min)", () -> x.race(Integer.MIN_VALUE, Integer.MIN_VALUE));
        DUE.is(-1, "race(max, max)", () -> x.race(Integer.MAX_VALUE, Integer.MAX_VALUE));
        DUE.is(0, "no race yet: count(0)", () -> x.count(0));
        DUE.is(0, "race(2, 1)", () -> x.race(2, 1));
        DUE.is(1, "race(6, 5)", () -> x.race(6, 5));
        DUE.is(2, "race(6, 1)", () -> x.race(6, 1));
        DUE.is(3, "race(3, 2)", () -> x.race(3, 2));
        DUE.is(4, "race(4, 2)", () -> x.race(4, 2));
        DUE.is(-1, "a sixth race", () -> x.race(2, 1));
        DUE.is(5, "five races: count(0)", () -> x.count(0));
        DUE.is(6, "about(1, 2)", () -> x.about(1, 2));
        DUE.is(5, "about(1, 3)", () -> x.about(1, 3));
    }

    private static void promise2NoRaceBehindPapers() {
        SureCount x = new SureCount();
        x.box();
        DUE.is(0, "a race behind a box", () -> x.race(2, 1));
        x.paper(0, 1);
        DUE.is(-1, "a race behind a paper", () -> x.race(2, 1));
        DUE.is(1, "count(0) behind it", () -> x.count(0));
    }

    private static void promise3Box() {
        SureCount x = new SureCount();
        for (int b = 0; b < 10; b++) {
            DUE.is(b, "box()", x::box);
        }
        DUE.is(-1, "an eleventh box", x::box);
        DUE.is(10, "count(1)", () -> x.count(1));
        SureCount y = Offices.withWords(2, 1, 1);
        DUE.is(1, "a box behind a paper", y::box);
        y.seal(1);
        DUE.is(-1, "a box once sealed", y::box);
        DUE.is(2, "count(1) once sealed", () -> y.count(1));
    }

    private static void promise4PaperWords() {
        SureCount x = new SureCount();
        x.race(2, 1);
        x.race(6, 1);
        x.box();
        DUE.noSuchElement("paper(-1, 0)", () -> x.paper(-1, 0));
        DUE.noSuchElement("paper(1, 0)", () -> x.paper(1, 0));
        DUE.is(-1, "race 0 has no 3", () -> x.paper(0, 3));
        DUE.is(-1, "race 0 has no 6", () -> x.paper(0, 6 + 8));
        DUE.is(0, "no paper came", () -> x.count(2));
        DUE.is(0, "no vote came", () -> x.votes(1, 1, 0));
        DUE.is(0, "blank in both", () -> x.paper(0, 0));
        DUE.is(1, "2 and 6", () -> x.paper(0, 2 + 6 * 8));
        DUE.is(2, "on it in neither", () -> x.paper(0, 7 + 7 * 8));
        DUE.is(3, "bits of races that aren't there", () -> x.paper(0, 1 + 8 + (5 << 6)));
        DUE.is(4, "all bits", () -> x.paper(0, -1));
        DUE.is(5, "the highest bit", () -> x.paper(0, Integer.MIN_VALUE));
        DUE.is(1, "votes(0, 1, 0)", () -> x.votes(0, 1, 0));
        DUE.is(1, "votes(1, 6, 0)", () -> x.votes(1, 6, 0));
        SureCount y = new SureCount();
        y.race(6, 1);
        y.race(2, 1);
        y.box();
        DUE.is(-1, "race 1 has no 3", () -> y.paper(0, 6 + 3 * 8));
        DUE.is(0, "no vote of a refused paper", () -> y.votes(0, 6, 0));
        SureCount z = new SureCount();
        z.box();
        DUE.is(0, "any word without races", () -> z.paper(0, 12345));
    }

    private static void promise4PaperLimits() {
        SureCount x = new SureCount();
        x.race(2, 1);
        x.box();
        for (int p = 0; p < 300; p++) {
            DUE.is(p, "paper(0, 1)", () -> x.paper(0, 1));
        }
        DUE.is(-1, "one more than 300", () -> x.paper(0, 1));
        DUE.is(300, "count(2)", () -> x.count(2));
        DUE.is(300, "votes(0, 1, 0)", () -> x.votes(0, 1, 0));
        DUE.noSuchElement("no such box with 300 papers", () -> x.paper(1, 1));
        SureCount y = Offices.withWords(2, 1, 1);
        y.seal(0);
        DUE.is(-1, "a paper once sealed", () -> y.paper(0, 1));
        DUE.is(1, "count(2) once sealed", () -> y.count(2));
        DUE.noSuchElement("no such box once sealed", () -> y.paper(1, 1));
    }

    private static void promise5Lose() {
        SureCount x = Offices.withWords(2, 1, 1, 2);
        DUE.noSuchElement("lose(-1, true)", () -> x.lose(-1, true));
        DUE.noSuchElement("lose(2, true)", () -> x.lose(2, true));
        DUE.is(false, "lose(0, false) of one that wasn't", () -> x.lose(0, false));
        DUE.is(false, "lose(0, true) ahead of the seal", () -> x.lose(0, true));
        DUE.is(true, "lose(0, true) again", () -> x.lose(0, true));
        DUE.is(1, "count(3)", () -> x.count(3));
        x.seal(3);
        DUE.is(true, "lose(0, false)", () -> x.lose(0, false));
        DUE.is(false, "lose(0, false) again", () -> x.lose(0, false));
        DUE.is(0, "count(3) with none", () -> x.count(3));
        x.read(1, 2, 2);
        DUE.illegalState("lose(1, true) of a read one", () -> x.lose(1, true));
        DUE.illegalState("lose(1, false) of a read one", () -> x.lose(1, false));
        DUE.is(0, "a read one isn't lost", () -> x.count(3));
        DUE.is(false, "lose(0, true) beside a read one", () -> x.lose(0, true));
    }

    private static void promise6Seal() {
        SureCount x = new SureCount();
        DUE.is(false, "seal without papers", () -> x.seal(1));
        x.race(2, 1);
        x.box();
        DUE.is(false, "seal with a box alone", () -> x.seal(1));
        DUE.is(0, "count(6)", () -> x.count(6));
        for (int p = 0; p < 10; p++) {
            x.paper(0, 1);
        }
        DUE.is(true, "seal(7)", () -> x.seal(7));
        DUE.is(1, "count(6) once sealed", () -> x.count(6));
        DUE.is(false, "seal(8)", () -> x.seal(8));
        x.draw(4);
        int[] bySeven = {8, 1, 3, 3};
        for (int d = 0; d < 4; d++) {
            int draw = d;
            DUE.is(bySeven[d], "the first seed stays: drawn(" + d + ")", () -> x.drawn(draw));
        }
    }

    private static void promise20Count() {
        SureCount x = new SureCount();
        x.race(3, 1);
        x.race(2, 1);
        x.box();
        x.box();
        x.box();
        for (int p = 0; p < 5; p++) {
            x.paper(p % 3, 9);
        }
        x.lose(4, true);
        x.seal(5);
        x.draw(7);
        x.read(0, 0, 9);
        x.read(0, 1, 9);
        x.read(3, 2, 9);
        x.read(2, 2, 0);
        int[] due = {2, 3, 5, 1, 7, 3, 1};
        for (int what = 0; what <= 6; what++) {
            int asked = what;
            DUE.is(due[what], "count(" + what + ")", () -> x.count(asked));
        }
        DUE.noSuchElement("count(-1)", () -> x.count(-1));
        DUE.noSuchElement("count(7)", () -> x.count(7));
        DUE.noSuchElement("count(min)", () -> x.count(Integer.MIN_VALUE));
    }
}
