/** Promise 6: seal. */
public final class SealTest {
    private static final Due DUE = new Due();

    public static void main(String[] args) {
        sealed();
        anyLong();
        itIsAlready();
        thereAreNoPapers();
        DUE.end();
    }

    private static void sealed() {
        DUE.sentence("Promise 6", "SEALED: true.");
        SureCount x = Offices.unsealed();
        DUE.is(0, "count(6)", () -> x.count(6));
        DUE.is(true, "seal(3)", () -> x.seal(3));
        DUE.is(1, "count(6)", () -> x.count(6));
        DUE.is(0, "nothing is drawn by it: count(4)", () -> x.count(4));
        DUE.is(true, "one paper is enough", () -> Offices.withWords(2, 1, 7).seal(3));
        DUE.is(true, "no races are needed", () -> {
            SureCount y = new SureCount();
            y.box();
            y.paper(0, 0);
            return y.seal(3);
        });
        SureCount lost = Offices.withWords(2, 1, 1);
        lost.lose(0, true);
        DUE.is(true, "a lost paper is one: seal(3)", () -> lost.seal(3));
    }

    private static void anyLong() {
        DUE.sentence("Terms", "a SEED s (a long, told when it is SEALED)");
        long[] seeds = {0, 1, -1, Integer.MIN_VALUE, 1L << 32, Long.MAX_VALUE, Long.MIN_VALUE};
        for (long seed : seeds) {
            SureCount x = Offices.withWords(2, 1, new int[250]);
            DUE.is(true, "seal(" + seed + ")", () -> x.seal(seed));
            x.draw(1);
            DUE.is(Offices.thrown(seed, 250, 1)[0], "seal(" + seed + "), drawn(0)", () -> x.drawn(0));
        }
    }

    private static void itIsAlready() {
        DUE.sentence("Promise 6", "False: it is already");
        Twins atWork = new Twins(DUE, Offices::atWork);
        atWork.changeNothing(false, "another seed: seal(8)", x -> x.seal(8));
        atWork.changeNothing(false, "the same seed: seal(49)", x -> x.seal(49));
        Twins notDrawn = new Twins(DUE, () -> {
            SureCount x = Offices.unsealed();
            x.seal(7);
            return x;
        });
        notDrawn.changeNothing(false, "ahead of all draws: seal(8)", x -> x.seal(8));
    }

    private static void thereAreNoPapers() {
        DUE.sentence("Promise 6", "or there are no PAPERS.");
        Twins noPapers = new Twins(DUE, () -> Offices.withWords(2, 1));
        noPapers.changeNothing(false, "a race and a box: seal(8)", x -> x.seal(8));
        Twins refused = new Twins(DUE, () -> Offices.withWords(2, 1, 3));
        refused.changeNothing(false, "a refused paper: seal(8)", x -> x.seal(8));
        SureCount x = Offices.withWords(2, 1);
        x.seal(8);
        for (int p = 0; p < 10; p++) {
            x.paper(0, 1);
        }
        DUE.is(true, "behind a refused one: seal(7)", () -> x.seal(7));
        x.draw(1);
        DUE.is(8, "by the seed 7: drawn(0)", () -> x.drawn(0));
    }
}
