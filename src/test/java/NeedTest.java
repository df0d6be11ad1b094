/** Promise 19: need. */
public final class NeedTest {
    private static final Due DUE = new Due();
    private static final int FULL = Risks.FULL;

    public static void main(String[] args) {
        howManyDrawsMore();
        sureIfNotAbove();
        noneIfItIsSure();
        draws();
        riskIsNone();
        moreThan100000();
        noSuchLimit();
        noSuchRace();
        changesNothing();
        DUE.end();
    }

    private static void howManyDrawsMore() {
        DUE.sentence("Terms", "NEED: how many DRAWS more, all taken, with an X of 0 each, it would be until");
        SureCount x = Offices.sixToFour();
        DUE.is(8, "need(0, 500000000)", () -> x.need(0, 500_000_000));
        x.draw(4);
        DUE.is(8, "draws that wait: need(0, 500000000)", () -> x.need(0, 500_000_000));
        x.read(8, 0, 2);
        x.read(1, 0, 1);
        x.read(3, 0, 1);
        DUE.is(4, "behind four draws: need(0, 500000000)", () -> x.need(0, 500_000_000));
        SureCount worse = Offices.sixToFour();
        worse.draw(1);
        worse.lose(8, true);
        DUE.is(7, "behind one of a lost loser's: need(0, 500000000)", () -> worse.need(0, 500_000_000));
        SureCount better = Offices.sixToFour();
        better.draw(1);
        better.read(8, 0, 1);
        DUE.is(0, "behind one better than told: need(0, 500000000)", () -> better.need(0, 500_000_000));
    }

    private static void sureIfNotAbove() {
        DUE.sentence("Terms", "SURE at a LIMIT (0 to 1,000,000,000): RISK is not above it.");
        SureCount x = Offices.sixToFour();
        DUE.is(1, "need(0, 999999999)", () -> x.need(0, FULL - 1));
        DUE.is(1, "just it: need(0, 909090910)", () -> x.need(0, 909090910));
        DUE.is(2, "just above it: need(0, 909090909)", () -> x.need(0, 909090909));
        DUE.is(2, "just it: need(0, 826446282)", () -> x.need(0, 826446282));
        DUE.is(3, "just above it: need(0, 826446281)", () -> x.need(0, 826446281));
    }

    private static void noneIfItIsSure() {
        DUE.sentence("Terms", "(0 if it is)");
        SureCount x = Offices.sixToFour();
        DUE.is(0, "ahead of all draws: need(0, 1000000000)", () -> x.need(0, FULL));
        x.draw(1);
        x.read(8, 0, 2);
        DUE.is(0, "need(0, 909090910)", () -> x.need(0, 909090910));
        DUE.is(1, "need(0, 909090909)", () -> x.need(0, 909090909));
        DUE.is(0, "need(0, 1000000000)", () -> x.need(0, FULL));
    }

    /** What is told to be needed is just enough. */
    private static void draws() {
        DUE.sentence("Promise 19", "NEED of a RACE at a LIMIT");
        int[] limits = {900_000_000, 300_000_000, 50_000_000, 1_000_000};
        for (int limit : limits) {
            SureCount x = Offices.sixToFour();
            for (int p = 0; p < 10; p++) {
                x.read(p, 0, p < 6 ? 1 : 2);
            }
            int need = x.need(0, limit);
            x.draw(need - 1);
            DUE.is(true, "one less than need(0, " + limit + ")", () -> x.risk(0) > limit);
            x.draw(1);
            DUE.is(true, "need(0, " + limit + ")", () -> x.risk(0) <= limit);
            DUE.is(0, "no more: need(0, " + limit + ")", () -> x.need(0, limit));
        }
    }

    private static void riskIsNone() {
        DUE.sentence("Promise 19", "NONE: RISK is NONE");
        SureCount unsealed = Offices.withWords(2, 1, 1, 1, 2);
        DUE.is(-1, "not sealed: need(0, 1000000000)", () -> unsealed.need(0, FULL));
        DUE.is(-1, "not sealed: need(0, 0)", () -> unsealed.need(0, 0));
        SureCount like = Offices.withWords(2, 1, 1, 2);
        like.seal(1);
        DUE.is(-1, "a MARGIN of 0: need(0, 1000000000)", () -> like.need(0, FULL));
        DUE.is(-1, "a MARGIN of 0: need(0, 0)", () -> like.need(0, 0));
    }

    /** Being cut up, RISK stays for ever at the greatest number that is less than 2.2 N / V, at the latest. */
    private static void moreThan100000() {
        DUE.sentence("Promise 19", "or more than 100,000");
        SureCount x = Offices.sixToFour();
        DUE.is(199, "need(0, 10)", () -> x.need(0, 10));
        DUE.is(-1, "it stays at 10: need(0, 9)", () -> x.need(0, 9));
        DUE.is(-1, "need(0, 0)", () -> x.need(0, 0));
        SureCount slowest = Offices.withWords(2, 1, Offices.words(150, 149));
        slowest.paper(0, 0);
        slowest.seal(1);
        DUE.is(9767, "300 papers, a MARGIN of 1: need(0, 659)", () -> slowest.need(0, 659));
        DUE.is(-1, "it stays at 659: need(0, 658)", () -> slowest.need(0, 658));
        SureCount fastest = Offices.withWords(2, 1, 1);
        fastest.seal(1);
        DUE.is(34, "all for one: need(0, 2)", () -> fastest.need(0, 2));
        DUE.is(-1, "it stays at 2: need(0, 1)", () -> fastest.need(0, 1));
        SureCount atOne = Offices.withWords(2, 1, 1, 1, 2);
        atOne.seal(4);
        for (int i = 0; i < 20; i++) {
            atOne.draw(100);
        }
        atOne.read(0, 0, 1);
        atOne.read(1, 0, 1);
        atOne.read(2, 0, 1);
        DUE.is(0, "RISK is 1: need(0, 1)", () -> atOne.need(0, 1));
        DUE.is(-1, "RISK is 1: need(0, 0)", () -> atOne.need(0, 0));
    }

    private static void noSuchLimit() {
        DUE.sentence("Promise 19", "IllegalArgumentException: no such LIMIT.");
        int[] others = {-1, FULL + 1, Integer.MIN_VALUE, Integer.MAX_VALUE};
        SureCount like = Offices.withWords(2, 1, 1, 2);
        like.seal(1);
        for (int limit : others) {
            DUE.illegalArgument("need(0, " + limit + ")", () -> Offices.atWork().need(0, limit));
            DUE.illegalArgument("not sealed: need(0, " + limit + ")", () -> Offices.unsealed().need(0, limit));
            DUE.illegalArgument("a MARGIN of 0: need(0, " + limit + ")", () -> like.need(0, limit));
        }
        DUE.is(-1, "the least: need(0, 0)", () -> Offices.sixToFour().need(0, 0));
        DUE.is(0, "the greatest: need(0, 1000000000)", () -> Offices.sixToFour().need(0, FULL));
    }

    private static void noSuchRace() {
        DUE.sentence("Promise 19", "int need(int race, int limit) throws NoSuchElementException");
        SureCount x = Offices.atWork();
        DUE.noSuchElement("need(2, 5)", () -> x.need(2, 5));
        DUE.noSuchElement("need(-1, 5)", () -> x.need(-1, 5));
        DUE.noSuchElement("no such limit either: need(2, -1)", () -> x.need(2, -1));
    }

    private static void changesNothing() {
        DUE.sentence("Terms", "it would be until it is SURE");
        Twins twins = new Twins(DUE, Offices::sixToFour);
        twins.changeNothing(8, "need(0, 500000000)", x -> x.need(0, 500_000_000));
        twins.changeNothing(-1, "need(0, 9)", x -> x.need(0, 9));
    }
}
