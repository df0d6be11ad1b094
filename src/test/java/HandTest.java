/** Promises 14 and 15: read, reading. */
public final class HandTest {
    private static final Due DUE = new Due();

    public static void main(String[] args) {
        promise14Read();
        promise14ReadWords();
        promise15ReadingOfOneHand();
        promise15ReadingOfSeveral();
        promise15ReadingOfEveryThree();
        promise15RacesApart();
        DUE.end();
    }

    private static void promise14Read() {
        SureCount x = Offices.withWords(2, 1, 1, 2);
        DUE.is(false, "read unsealed", () -> x.read(0, 0, 1));
        DUE.noSuchElement("read(2, 0, 1) unsealed", () -> x.read(2, 0, 1));
        DUE.noSuchElement("read(0, 3, 1) unsealed", () -> x.read(0, 3, 1));
        x.seal(1);
        DUE.is(0, "none is read", () -> x.count(5));
        DUE.is(true, "read(0, 0, 1)", () -> x.read(0, 0, 1));
        DUE.is(false, "that hand again", () -> x.read(0, 0, 2));
        DUE.is(1, "its first reading stays", () -> x.reading(0, 0));
        DUE.is(true, "another hand", () -> x.read(0, 2, 1));
        DUE.is(true, "the third hand", () -> x.read(0, 1, 1));
        DUE.is(1, "one paper is read", () -> x.count(5));
        x.lose(1, true);
        DUE.is(false, "a lost one", () -> x.read(1, 0, 2));
        x.lose(1, false);
        DUE.is(true, "found again", () -> x.read(1, 0, 2));
        DUE.noSuchElement("read(-1, 0, 1)", () -> x.read(-1, 0, 1));
        DUE.noSuchElement("read(2, 0, 1)", () -> x.read(2, 0, 1));
        DUE.noSuchElement("read(1, -1, 1)", () -> x.read(1, -1, 1));
        DUE.noSuchElement("read(1, 3, 1)", () -> x.read(1, 3, 1));
        DUE.noSuchElement("read(1, 33, 1)", () -> x.read(1, 33, 1));
        DUE.noSuchElement("read(1, 3, 5)", () -> x.read(1, 3, 5));
    }

    private static void promise14ReadWords() {
        SureCount x = new SureCount();
        x.race(6, 1);
        x.race(2, 1);
        x.box();
        x.paper(0, 1 + 8);
        x.seal(1);
        DUE.is(false, "race 1 has no 3", () -> x.read(0, 0, 1 + 3 * 8));
        DUE.is(false, "race 1 has no 6", () -> x.read(0, 0, 6 + 6 * 8));
        DUE.is(-1, "it isn't read", () -> x.reading(0, 0));
        DUE.is(0, "count(5)", () -> x.count(5));
        DUE.is(true, "bits of races that aren't there", () -> x.read(0, 0, 6 + 2 * 8 + (6 << 6)));
        DUE.is(6, "reading(0, 0)", () -> x.reading(0, 0));
        DUE.is(2, "reading(0, 1)", () -> x.reading(0, 1));
        DUE.is(true, "all bits", () -> x.read(0, 1, -1));
        DUE.is(true, "all bits by the third", () -> x.read(0, 2, -1));
        DUE.is(7, "on it in neither", () -> x.reading(0, 1));
    }

    private static void promise15ReadingOfOneHand() {
        for (int hand = 0; hand < 3; hand++) {
            SureCount x = Offices.withWords(6, 1, 1, 1, 1, 1, 1, 1, 1, 1, 1);
            x.seal(1);
            for (int mark = 0; mark <= 7; mark++) {
                int paper = mark;
                DUE.is(-1, "ahead of it: reading(" + paper + ", 0)", () -> x.reading(paper, 0));
                x.read(paper, hand, mark);
                DUE.is(mark, "hand " + hand + " alone: reading(" + paper + ", 0)", () -> x.reading(paper, 0));
            }
            x.lose(8, true);
            DUE.is(-1, "a lost one isn't read", () -> x.reading(8, 0));
            DUE.noSuchElement("reading(9, 0)", () -> x.reading(9, 0));
            DUE.noSuchElement("reading(-1, 0)", () -> x.reading(-1, 0));
            DUE.noSuchElement("reading(0, 1)", () -> x.reading(0, 1));
            DUE.noSuchElement("reading(0, -1)", () -> x.reading(0, -1));
        }
    }

    private static void promise15ReadingOfSeveral() {
        int[][] pairs = {{0, 1}, {0, 2}, {1, 2}, {2, 0}};
        for (int[] pair : pairs) {
            SureCount x = Offices.withWords(6, 1, 1, 1, 1);
            x.seal(1);
            x.read(0, pair[0], 4);
            x.read(0, pair[1], 4);
            DUE.is(4, "two agree", () -> x.reading(0, 0));
            x.read(1, pair[0], 4);
            x.read(1, pair[1], 5);
            DUE.is(0, "two disagree", () -> x.reading(1, 0));
            x.read(2, pair[0], 7);
            x.read(2, pair[1], 1);
            DUE.is(0, "on it by one of two", () -> x.reading(2, 0));
        }
    }

    private static void promise15ReadingOfEveryThree() {
        for (int a = 0; a <= 7; a++) {
            for (int b = 0; b <= 7; b++) {
                for (int c = 0; c <= 7; c++) {
                    SureCount x = Offices.withWords(6, 1, 1);
                    x.seal(1);
                    x.read(0, 2, c);
                    x.read(0, 0, a);
                    x.read(0, 1, b);
                    int due = a == b || a == c ? a : b == c ? b : 0;
                    DUE.is(due, "hands " + a + " " + b + " " + c, () -> x.reading(0, 0));
                }
            }
        }
    }

    private static void promise15RacesApart() {
        SureCount x = new SureCount();
        for (int r = 0; r < 5; r++) {
            x.race(6, 1);
        }
        x.box();
        x.paper(0, 0);
        x.seal(1);
        x.read(0, 0, 1 | 2 << 3 | 3 << 6 | 4 << 9 | 5 << 12);
        x.read(0, 1, 1 | 6 << 3 | 0 << 6 | 2 << 9 | 7 << 12);
        x.read(0, 2, 3 | 2 << 3 | 0 << 6 | 1 << 9 | 7 << 12);
        int[] due = {1, 2, 0, 0, 7};
        for (int r = 0; r < 5; r++) {
            int race = r;
            DUE.is(due[r], "reading(0, " + r + ")", () -> x.reading(0, race));
        }
    }
}
