/** Promises 10 to 13: draw, drawn, waits, pulled. */
public final class DrawTest {
    private static final Due DUE = new Due();

    public static void main(String[] args) {
        promise10HowManyThereAre();
        promise10NotSealed();
        promise10MoreThan2000();
        promise10ThrowsNoDiceWhenRefused();
        promise10NotNoneTo100();
        diceThatWrap();
        highest31Bits();
        dividedByTheNumberOfPapers();
        theDiceGoOnWhole();
        aPaperMayBeDrawnAgain();
        promise11NoSuchDraw();
        promise12TheFirstThatWaits();
        promise12None();
        promise13UnlikePapers();
        promise13OfAll();
        promise13NoSuchBox();
        DUE.end();
    }

    private static void promise10HowManyThereAre() {
        DUE.sentence("Promise 10", "n DRAWS more: how many there are.");
        SureCount x = Offices.sixToFour();
        DUE.is(0, "draw(0)", () -> x.draw(0));
        DUE.is(1, "draw(1)", () -> x.draw(1));
        DUE.is(1, "draw(0)", () -> x.draw(0));
        DUE.is(101, "draw(100)", () -> x.draw(100));
        DUE.is(101, "count(4)", () -> x.count(4));
        DUE.is(8, "numbered from 0 on: drawn(0)", () -> x.drawn(0));
        int[] due = Offices.thrown(7, 10, 101);
        for (int d = 1; d <= 100; d++) {
            int draw = d;
            DUE.is(due[d], "drawn(" + d + ")", () -> x.drawn(draw));
        }
    }

    private static void promise10NotSealed() {
        DUE.sentence("Promise 10", "NONE, and nothing changes: it isn't SEALED");
        Twins twins = new Twins(DUE, Offices::unsealed);
        twins.changeNothing(-1, "draw(0)", x -> x.draw(0));
        twins.changeNothing(-1, "draw(1)", x -> x.draw(1));
        twins.changeNothing(-1, "draw(100)", x -> x.draw(100));
    }

    private static SureCount with1950Draws() {
        SureCount x = Offices.sixToFour();
        for (int i = 1; i <= 19; i++) {
            x.draw(100);
        }
        x.draw(50);
        return x;
    }

    private static void promise10MoreThan2000() {
        DUE.sentence("Promise 10", "or there would be more than 2,000");
        SureCount x = with1950Draws();
        DUE.is(1950, "count(4)", () -> x.count(4));
        DUE.is(-1, "2,001: draw(51)", () -> x.draw(51));
        DUE.is(-1, "2,050: draw(100)", () -> x.draw(100));
        DUE.is(1950, "nothing changes: count(4)", () -> x.count(4));
        DUE.noSuchElement("nothing changes: drawn(1950)", () -> x.drawn(1950));
        DUE.is(2000, "2,000: draw(50)", () -> x.draw(50));
        DUE.is(-1, "2,001: draw(1)", () -> x.draw(1));
        DUE.is(2000, "none more: draw(0)", () -> x.draw(0));
        DUE.is(2000, "count(4)", () -> x.count(4));
        DUE.is(Offices.thrown(7, 10, 2000)[1999], "the last: drawn(1999)", () -> x.drawn(1999));
        DUE.noSuchElement("drawn(2000)", () -> x.drawn(2000));
        DUE.illegalArgument("draw(101)", () -> x.draw(101));
        DUE.illegalArgument("draw(-1)", () -> x.draw(-1));
    }

    private static void promise10ThrowsNoDiceWhenRefused() {
        DUE.sentence("Promise 10", "NONE, and nothing changes");
        SureCount x = with1950Draws();
        int pulled = x.pulled(SureCount.NONE);
        x.draw(51);
        DUE.is(pulled, "pulled(NONE)", () -> x.pulled(SureCount.NONE));
        DUE.is(0, "waits()", x::waits);
        x.draw(50);
        int[] due = Offices.thrown(7, 10, 2000);
        for (int d = 1950; d < 2000; d++) {
            int draw = d;
            DUE.is(due[d], "drawn(" + d + ")", () -> x.drawn(draw));
        }
        SureCount lateSeal = Offices.withWords(2, 1, Offices.words(6, 4));
        lateSeal.draw(3);
        lateSeal.seal(7);
        lateSeal.draw(1);
        DUE.is(8, "refused ahead of the seal: drawn(0)", () -> lateSeal.drawn(0));
    }

    private static void promise10NotNoneTo100() {
        DUE.sentence("Promise 10", "IllegalArgumentException: n is not 0 to 100.");
        DUE.is(0, "draw(0)", () -> Offices.sixToFour().draw(0));
        DUE.is(100, "draw(100)", () -> Offices.sixToFour().draw(100));
        int[] others = {-1, 101, 2000, Integer.MIN_VALUE, Integer.MAX_VALUE};
        for (int n : others) {
            new Twins(DUE, Offices::atWork).illegalArgument("draw(" + n + ")", x -> x.draw(n));
            new Twins(DUE, Offices::unsealed).illegalArgument("not sealed: draw(" + n + ")", x -> x.draw(n));
        }
    }

    private static void diceThatWrap() {
        DUE.sentence("Terms", "s becomes s times 6364136223846793005 and 1442695040888963407 more (longs that wrap)");
        long[] seeds = {0, 1, -1, 12345, Long.MAX_VALUE, Long.MIN_VALUE, -987654321012345L};
        int[] sizes = {1, 2, 7, 64, 299, 300};
        for (long seed : seeds) {
            for (int size : sizes) {
                SureCount x = Offices.withWords(2, 1, new int[size]);
                x.seal(seed);
                x.draw(40);
                int[] due = Offices.thrown(seed, size, 40);
                for (int d = 0; d < 40; d++) {
                    int asked = d;
                    DUE.is(due[d], "seed " + seed + ", " + size + " papers: drawn(" + d + ")",
                            () -> x.drawn(asked));
                }
            }
        }
    }

    private static void highest31Bits() {
        DUE.sentence("Terms", "its highest 31 bits taken as a whole number");
        firstDrawIs(0, 0L, 300);
        firstDrawIs(0, (1L << 33) - 1, 300);
        firstDrawIs(1, 1L << 33, 300);
        firstDrawIs(1, (2L << 33) - 1, 300);
        firstDrawIs((1 << 30) % 300, Long.MIN_VALUE, 300);
        firstDrawIs(((1 << 30) - 1) % 300, Long.MAX_VALUE, 300);
        firstDrawIs(Integer.MAX_VALUE % 300, -1L, 300);
        firstDrawIs((Integer.MAX_VALUE - 1) % 7, -1L - (1L << 33), 7);
    }

    private static void dividedByTheNumberOfPapers() {
        DUE.sentence("Terms", "leaves when it is divided by the number of PAPERS");
        int[] sizes = {2, 3, 10, 299, 300};
        for (int papers : sizes) {
            firstDrawIs(papers - 1, papers - 1L << 33, papers);
            firstDrawIs(0, (long) papers << 33, papers);
            firstDrawIs(1, papers + 1L << 33, papers);
        }
        firstDrawIs(0, -1L, 1);
        SureCount lost = Offices.withWords(2, 1, Offices.words(6, 4));
        for (int p = 0; p < 10; p++) {
            lost.lose(p, true);
        }
        lost.seal(7);
        lost.draw(4);
        int[] due = {8, 1, 3, 3};
        for (int d = 0; d < 4; d++) {
            int draw = d;
            DUE.is(due[d], "lost papers count too: drawn(" + d + ")", () -> lost.drawn(draw));
        }
    }

    private static void firstDrawIs(int paper, long s, int papers) {
        SureCount x = Offices.withWords(2, 1, new int[papers]);
        x.seal(Offices.seedThatBecomes(s));
        x.draw(1);
        DUE.is(paper, "s " + s + ", " + papers + " papers: drawn(0)", () -> x.drawn(0));
    }

    private static void theDiceGoOnWhole() {
        DUE.sentence("Terms", "for each DRAW s becomes");
        SureCount atOnce = Offices.withWords(2, 1, new int[100]);
        atOnce.seal(5);
        atOnce.draw(60);
        SureCount oneByOne = Offices.withWords(2, 1, new int[100]);
        oneByOne.seal(5);
        for (int d = 0; d < 60; d++) {
            oneByOne.draw(0);
            oneByOne.draw(1);
        }
        for (int d = 0; d < 60; d++) {
            int draw = d;
            DUE.is(atOnce.drawn(d), "one by one: drawn(" + d + ")", () -> oneByOne.drawn(draw));
        }
    }

    private static void aPaperMayBeDrawnAgain() {
        DUE.sentence("Terms", "(A PAPER may be drawn again.)");
        SureCount x = Offices.withWords(2, 1, 1);
        x.seal(12);
        x.draw(100);
        for (int d = 0; d < 100; d++) {
            int draw = d;
            DUE.is(0, "one paper: drawn(" + d + ")", () -> x.drawn(draw));
        }
        DUE.is(1, "pulled(0)", () -> x.pulled(0));
        SureCount y = Offices.sixToFour();
        y.draw(4);
        DUE.is(3, "8, 1, 3, 3: drawn(2)", () -> y.drawn(2));
        DUE.is(3, "8, 1, 3, 3: drawn(3)", () -> y.drawn(3));
    }

    private static void promise11NoSuchDraw() {
        DUE.sentence("Promise 11", "NoSuchElementException: no such DRAW.");
        SureCount none = Offices.sixToFour();
        DUE.noSuchElement("no draws: drawn(0)", () -> none.drawn(0));
        DUE.noSuchElement("not sealed: drawn(0)", () -> Offices.unsealed().drawn(0));
        Twins twins = new Twins(DUE, Offices::atWork);
        int[] others = {-1, 5, 2000, Integer.MIN_VALUE, Integer.MAX_VALUE};
        for (int draw : others) {
            twins.noSuchElement("drawn(" + draw + ")", x -> x.drawn(draw));
        }
        SureCount x = Offices.atWork();
        DUE.is(1, "the first: drawn(0)", () -> x.drawn(0));
        DUE.is(2, "the last: drawn(4)", () -> x.drawn(4));
    }

    /** The draws are of 8, 1, 3, 3. */
    private static void promise12TheFirstThatWaits() {
        DUE.sentence("Promise 12", "The first DRAW whose PAPER is neither READ nor LOST");
        SureCount x = Offices.sixToFour();
        x.draw(4);
        DUE.is(0, "waits()", x::waits);
        x.read(1, 0, 1);
        DUE.is(0, "a later one read", x::waits);
        x.read(8, 0, 3);
        DUE.is(0, "a refused reading", x::waits);
        x.read(8, 2, 2);
        DUE.is(2, "the first two read", x::waits);
        x.lose(3, true);
        x.lose(3, false);
        DUE.is(2, "lost and found", x::waits);
        x.read(3, 1, 7);
        x.draw(60);
        int waiting = 4;
        while (x.drawn(waiting) == 8 || x.drawn(waiting) == 1 || x.drawn(waiting) == 3) {
            waiting++;
        }
        DUE.is(waiting, "with 60 more", x::waits);
    }

    private static void promise12None() {
        DUE.sentence("Promise 12", "nor LOST; NONE.");
        SureCount x = Offices.sixToFour();
        DUE.is(-1, "not sealed", () -> Offices.unsealed().waits());
        DUE.is(-1, "no draws", x::waits);
        x.draw(4);
        x.read(8, 0, 2);
        x.read(1, 1, 1);
        x.read(3, 2, 1);
        DUE.is(-1, "all read", x::waits);
        SureCount y = Offices.sixToFour();
        y.draw(4);
        y.lose(8, true);
        y.lose(1, true);
        y.lose(3, true);
        DUE.is(-1, "all lost", y::waits);
        y.lose(3, false);
        DUE.is(2, "one found", y::waits);
        y.read(3, 0, 1);
        DUE.is(-1, "and read", y::waits);
    }

    private static SureCount inThreeBoxes() {
        SureCount x = new SureCount();
        x.race(2, 1);
        x.box();
        x.box();
        x.box();
        for (int p = 0; p < 10; p++) {
            x.paper(p % 2, 1);
        }
        return x;
    }

    private static void promise13UnlikePapers() {
        DUE.sentence("Promise 13", "How many unlike PAPERS of a BOX were drawn");
        SureCount x = inThreeBoxes();
        DUE.is(0, "not sealed: pulled(0)", () -> x.pulled(0));
        x.seal(7);
        DUE.is(0, "no draws: pulled(0)", () -> x.pulled(0));
        x.draw(4);
        DUE.is(1, "8: pulled(0)", () -> x.pulled(0));
        DUE.is(2, "1, 3 and 3 again: pulled(1)", () -> x.pulled(1));
        DUE.is(0, "an empty box: pulled(2)", () -> x.pulled(2));
        x.read(0, 0, 1);
        x.lose(3, true);
        DUE.is(1, "reading one draws none: pulled(0)", () -> x.pulled(0));
        DUE.is(2, "a lost one stays drawn: pulled(1)", () -> x.pulled(1));
        x.draw(100);
        DUE.is(5, "all of them: pulled(0)", () -> x.pulled(0));
        DUE.is(5, "all of them: pulled(1)", () -> x.pulled(1));
    }

    private static void promise13OfAll() {
        DUE.sentence("Promise 13", "box NONE: of all");
        SureCount x = inThreeBoxes();
        DUE.is(0, "not sealed: pulled(NONE)", () -> x.pulled(SureCount.NONE));
        x.seal(7);
        DUE.is(0, "no draws: pulled(NONE)", () -> x.pulled(SureCount.NONE));
        x.draw(4);
        DUE.is(3, "8, 1, 3, 3: pulled(NONE)", () -> x.pulled(SureCount.NONE));
        x.draw(100);
        DUE.is(10, "all of them: pulled(NONE)", () -> x.pulled(SureCount.NONE));
    }

    private static void promise13NoSuchBox() {
        DUE.sentence("Promise 13", "NoSuchElementException: no such BOX.");
        Twins twins = new Twins(DUE, Offices::atWork);
        int[] others = {-2, 2, 10, Integer.MIN_VALUE, Integer.MAX_VALUE};
        for (int box : others) {
            twins.noSuchElement("pulled(" + box + ")", x -> x.pulled(box));
        }
        DUE.noSuchElement("no boxes: pulled(0)", () -> new SureCount().pulled(0));
    }
}
