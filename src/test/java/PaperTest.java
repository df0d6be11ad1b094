/** Promises 4 and 5: paper, lose. */
public final class PaperTest {
    private static final Due DUE = new Due();

    public static void main(String[] args) {
        promise4AtMost300();
        promise4EachInABox();
        promise4Sealed();
        promise4MarksOfAWord();
        promise4ThreeBitsARace();
        promise4RefusedWordsChangeNothing();
        promise4BitsOfRacesThatAreNotThere();
        promise4NoSuchBox();
        promise5WhetherItWas();
        promise5AheadOfAndBehindTheSeal();
        promise5NoSuchPaper();
        promise5SomeHandReadIt();
        DUE.end();
    }

    private static void promise4AtMost300() {
        DUE.sentence("Promise 4", "NONE: there are 300");
        SureCount x = Offices.withWords(2, 1);
        for (int p = 0; p < 300; p++) {
            DUE.is(p, "paper(0, 1)", () -> x.paper(0, 1));
        }
        DUE.is(-1, "one more than 300: paper(0, 1)", () -> x.paper(0, 1));
        DUE.is(-1, "paper(0, 2)", () -> x.paper(0, 2));
        DUE.is(300, "count(2)", () -> x.count(2));
        DUE.is(300, "votes(0, 1, 0)", () -> x.votes(0, 1, 0));
        DUE.is(0, "votes(0, 2, 0)", () -> x.votes(0, 2, 0));
        DUE.is(300, "votes(0, 1, 1)", () -> x.votes(0, 1, 1));
        DUE.is(300, "about(0, 0)", () -> x.about(0, 0));
        DUE.is(300, "about(0, 1)", () -> x.about(0, 1));
        DUE.is(false, "the last paper is there: lose(299, true)", () -> x.lose(299, true));
        DUE.noSuchElement("lose(300, true)", () -> x.lose(300, true));
        DUE.noSuchElement("no such box with 300 papers: paper(1, 1)", () -> x.paper(1, 1));
    }

    private static void promise4EachInABox() {
        DUE.sentence("Terms", "each in a BOX");
        for (int b = 0; b < 10; b++) {
            SureCount x = new SureCount();
            for (int other = 0; other < 10; other++) {
                x.box();
            }
            x.paper(b, 0);
            x.seal(1);
            x.draw(1);
            for (int asked = 0; asked < 10; asked++) {
                int box = asked;
                DUE.is(asked == b ? 1 : 0, "a paper in box " + b + ": pulled(" + asked + ")", () -> x.pulled(box));
            }
        }
    }

    private static void promise4Sealed() {
        DUE.sentence("Promise 4", "it is SEALED");
        Twins twins = new Twins(DUE, Offices::atWork);
        twins.changeNothing(-1, "once sealed: paper(0, 9)", x -> x.paper(0, 9));
        twins.noSuchElement("no such box once sealed: paper(2, 9)", x -> x.paper(2, 9));
        DUE.is(1, "behind a refused seal: paper(0, 1)", () -> {
            SureCount x = new SureCount();
            x.box();
            x.seal(1);
            x.paper(0, 1);
            return x.paper(0, 1);
        });
    }

    /** Each race of each size with each mark; the other races are left blank. */
    private static void promise4MarksOfAWord() {
        DUE.sentence("Terms", "0 blank, 1 to c a CANDIDATE, 7 the RACE isn't on it");
        for (int c = 2; c <= 6; c++) {
            for (int race = 0; race < 5; race++) {
                for (int mark = 0; mark <= 7; mark++) {
                    SureCount x = fiveRaces(c);
                    int word = mark << 3 * race;
                    boolean isThere = mark <= c || mark == 7;
                    String office = "five races of " + c + ": ";
                    DUE.is(isThere ? 0 : -1, office + "paper(0, " + word + ")", () -> x.paper(0, word));
                    DUE.is(isThere ? 1 : 0, office + "count(2)", () -> x.count(2));
                }
            }
        }
    }

    private static SureCount fiveRaces(int candidates) {
        SureCount x = new SureCount();
        for (int r = 0; r < 5; r++) {
            x.race(candidates, 1);
        }
        x.box();
        return x;
    }

    private static void promise4ThreeBitsARace() {
        DUE.sentence("Terms", "for each RACE 3 bits, those of RACE 0 lowest");
        SureCount x = fiveRaces(6);
        x.paper(0, 6 | 5 << 3 | 0 << 6 | 7 << 9 | 1 << 12);
        int[] marks = {6, 5, 0, 7, 1};
        for (int r = 0; r < 5; r++) {
            int race = r;
            DUE.is(marks[r] == 7 ? 0 : 1, "about(" + r + ", 0)", () -> x.about(race, 0));
            for (int c = 1; c <= 6; c++) {
                int candidate = c;
                DUE.is(marks[r] == c ? 1 : 0, "votes(" + r + ", " + c + ", 0)", () -> x.votes(race, candidate, 0));
            }
        }
    }

    private static void promise4RefusedWordsChangeNothing() {
        DUE.sentence("Promise 4", "or THE WORD names what there is not in some RACE");
        Twins twins = new Twins(DUE, Offices::unsealed);
        twins.changeNothing(-1, "race 0 has no 4: paper(0, 4)", x -> x.paper(0, 4));
        twins.changeNothing(-1, "race 0 has no 6: paper(0, 6 + 8)", x -> x.paper(0, 6 + 8));
        twins.changeNothing(-1, "race 1 has no 3: paper(0, 1 + 24)", x -> x.paper(0, 1 + 3 * 8));
        twins.changeNothing(-1, "race 1 has no 6: paper(1, 2 + 48)", x -> x.paper(1, 2 + 6 * 8));
        twins.changeNothing(-1, "neither has it: paper(1, 5 + 40)", x -> x.paper(1, 5 + 5 * 8));
        SureCount x = Offices.unsealed();
        x.paper(0, 4);
        DUE.is(4, "the next paper behind a refused one", () -> x.paper(0, 3));
    }

    private static void promise4BitsOfRacesThatAreNotThere() {
        DUE.sentence("Promise 4", "bits of RACES that are not there aren't asked");
        for (int races = 0; races <= 5; races++) {
            SureCount x = new SureCount();
            for (int r = 0; r < races; r++) {
                x.race(2, 1);
            }
            x.box();
            String office = races + " races: ";
            for (int bit = 3 * races; bit < 32; bit++) {
                int word = 1 << bit;
                DUE.is(x.count(2), office + "paper(0, " + word + ")", () -> x.paper(0, word));
            }
            int threes = 0b11011011011011011 << 3 * races;
            DUE.is(x.count(2), office + "paper(0, " + threes + ")", () -> x.paper(0, threes));
            DUE.is(x.count(2), office + "paper(0, -1)", () -> x.paper(0, -1));
            DUE.is(x.count(2), office + "paper(0, min)", () -> x.paper(0, Integer.MIN_VALUE));
            int last = races - 1;
            if (races > 0) {
                DUE.is(-1, office + "the last race's are: paper(0, 3 << " + 3 * last + ")",
                        () -> x.paper(0, 3 << 3 * last));
                DUE.is(0, office + "no votes by them", () -> x.votes(last, 1, 0) + x.votes(last, 2, 0));
            }
        }
    }

    private static void promise4NoSuchBox() {
        DUE.sentence("Promise 4", "NoSuchElementException: no such BOX.");
        Twins twins = new Twins(DUE, Offices::unsealed);
        twins.noSuchElement("paper(-1, 9)", x -> x.paper(-1, 9));
        twins.noSuchElement("paper(2, 9)", x -> x.paper(2, 9));
        twins.noSuchElement("paper(10, 9)", x -> x.paper(10, 9));
        twins.noSuchElement("paper(min, 9)", x -> x.paper(Integer.MIN_VALUE, 9));
        twins.noSuchElement("paper(max, 9)", x -> x.paper(Integer.MAX_VALUE, 9));
        twins.noSuchElement("no such box, no such candidate: paper(2, 4)", x -> x.paper(2, 4));
        DUE.is(4, "the first: paper(0, 9)", () -> Offices.unsealed().paper(0, 9));
        DUE.is(4, "the last: paper(1, 9)", () -> Offices.unsealed().paper(1, 9));
    }

    private static void promise5WhetherItWas() {
        DUE.sentence("Promise 5", "A PAPER is LOST, or not: whether it was.");
        SureCount x = Offices.withWords(2, 1, 1, 2);
        DUE.is(false, "one that wasn't: lose(0, false)", () -> x.lose(0, false));
        DUE.is(0, "count(3)", () -> x.count(3));
        DUE.is(false, "lose(0, true)", () -> x.lose(0, true));
        DUE.is(1, "count(3)", () -> x.count(3));
        DUE.is(true, "again: lose(0, true)", () -> x.lose(0, true));
        DUE.is(1, "count(3)", () -> x.count(3));
        DUE.is(false, "the other one isn't: lose(1, false)", () -> x.lose(1, false));
        DUE.is(true, "lose(0, false)", () -> x.lose(0, false));
        DUE.is(0, "count(3)", () -> x.count(3));
        DUE.is(false, "again: lose(0, false)", () -> x.lose(0, false));
    }

    private static void promise5AheadOfAndBehindTheSeal() {
        DUE.sentence("Terms", "A PAPER may be LOST.");
        SureCount x = Offices.withWords(2, 1, 1, 2, 2);
        x.lose(2, true);
        x.seal(3);
        DUE.is(1, "ahead of the seal: count(3)", () -> x.count(3));
        DUE.is(true, "found behind it: lose(2, false)", () -> x.lose(2, false));
        DUE.is(false, "lost behind it: lose(1, true)", () -> x.lose(1, true));
        x.lose(0, true);
        x.lose(2, true);
        DUE.is(3, "all of them: count(3)", () -> x.count(3));
    }

    private static void promise5NoSuchPaper() {
        DUE.sentence("Promise 5", "NoSuchElementException: no such PAPER (as everywhere).");
        Twins twins = new Twins(DUE, Offices::atWork);
        int[] numbers = {-1, 4, 300, Integer.MIN_VALUE, Integer.MAX_VALUE};
        for (int paper : numbers) {
            twins.noSuchElement("lose(" + paper + ", true)", x -> x.lose(paper, true));
            twins.noSuchElement("lose(" + paper + ", false)", x -> x.lose(paper, false));
            twins.noSuchElement("read(" + paper + ", 0, 9)", x -> x.read(paper, 0, 9));
            twins.noSuchElement("reading(" + paper + ", 0)", x -> x.reading(paper, 0));
        }
    }

    private static void promise5SomeHandReadIt() {
        DUE.sentence("Promise 5", "IllegalStateException: some HAND read it.");
        for (int h = 0; h <= 2; h++) {
            int hand = h;
            Twins twins = new Twins(DUE, () -> {
                SureCount x = Offices.atWork();
                x.read(2, hand, 0);
                return x;
            });
            twins.illegalState("read by hand " + hand + " alone: lose(2, true)", x -> x.lose(2, true));
            twins.illegalState("read by hand " + hand + " alone: lose(2, false)", x -> x.lose(2, false));
        }
        Twins twins = new Twins(DUE, Offices::atWork);
        twins.illegalState("read by two: lose(0, true)", x -> x.lose(0, true));
        DUE.is(false, "not read: lose(2, true)", () -> Offices.atWork().lose(2, true));
        SureCount refused = Offices.atWork();
        refused.read(2, 0, 4);
        DUE.is(false, "a refused reading is none: lose(2, true)", () -> refused.lose(2, true));
    }
}
