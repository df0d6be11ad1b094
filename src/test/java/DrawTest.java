import java.math.BigInteger;

/** Promises 10 to 13: draw, drawn, waits, pulled. */
public final class DrawTest {
    private static final Due DUE = new Due();

    public static void main(String[] args) {
        promise10Draw();
        promise10MostDraws();
        promise11Drawn();
        promise11DrawnBySeeds();
        promise12Waits();
        promise13Pulled();
        DUE.end();
    }

    private static void promise10Draw() {
        SureCount x = Offices.withWords(2, 1, 1, 2);
        DUE.is(-1, "draw(1) unsealed", () -> x.draw(1));
        DUE.is(-1, "draw(0) unsealed", () -> x.draw(0));
        DUE.illegalArgument("draw(101) unsealed", () -> x.draw(101));
        x.seal(1);
        DUE.is(0, "draw(0)", () -> x.draw(0));
        DUE.is(1, "draw(1)", () -> x.draw(1));
        DUE.is(101, "draw(100)", () -> x.draw(100));
        DUE.illegalArgument("draw(101)", () -> x.draw(101));
        DUE.illegalArgument("draw(-1)", () -> x.draw(-1));
        DUE.illegalArgument("draw(max)", () -> x.draw(Integer.MAX_VALUE));
        DUE.illegalArgument("draw(min)", () -> x.draw(Integer.MIN_VALUE));
        DUE.is(101, "count(4)", () -> x.count(4));
    }

    private static void promise10MostDraws() {
        SureCount x = Offices.sixToFour();
        for (int i = 1; i <= 19; i++) {
            DUE.is(100 * i, "draw(100)", () -> x.draw(100));
        }
        DUE.is(1950, "draw(50)", () -> x.draw(50));
        DUE.is(-1, "draw(51) would be 2,001", () -> x.draw(51));
        DUE.is(1950, "nothing changed", () -> x.count(4));
        DUE.is(2000, "draw(50)", () -> x.draw(50));
        DUE.is(-1, "draw(1) at 2,000", () -> x.draw(1));
        DUE.is(2000, "draw(0) at 2,000", () -> x.draw(0));
        DUE.illegalArgument("draw(101) at 2,000", () -> x.draw(101));
        DUE.is(thrown(7, 10, 1999), "drawn(1999)", () -> x.drawn(1999));
        DUE.is(thrown(7, 10, 1950), "a refused draw throws no dice: drawn(1950)", () -> x.drawn(1950));
        DUE.noSuchElement("drawn(2000)", () -> x.drawn(2000));
    }

    private static void promise11Drawn() {
        SureCount x = Offices.sixToFour();
        DUE.noSuchElement("drawn(0) ahead of draws", () -> x.drawn(0));
        x.draw(2);
        x.draw(2);
        int[] due = {8, 1, 3, 3};
        for (int d = 0; d < 4; d++) {
            int asked = d;
            DUE.is(due[d], "drawn(" + d + ")", () -> x.drawn(asked));
        }
        DUE.noSuchElement("drawn(4)", () -> x.drawn(4));
        DUE.noSuchElement("drawn(-1)", () -> x.drawn(-1));
        DUE.noSuchElement("drawn(max)", () -> x.drawn(Integer.MAX_VALUE));
    }

    private static void promise11DrawnBySeeds() {
        long[] seeds = {0, 1, -1, 12345, Long.MAX_VALUE, Long.MIN_VALUE, -987654321012345L};
        int[] sizes = {1, 2, 7, 64, 300};
        for (long seed : seeds) {
            for (int size : sizes) {
                SureCount x = Offices.withWords(2, 1, new int[size]);
                x.seal(seed);
                x.draw(40);
                for (int d = 0; d < 40; d++) {
                    int asked = d;
                    DUE.is(thrown(seed, size, d), "seed " + seed + ", " + size + " papers: drawn(" + d + ")",
                            () -> x.drawn(asked));
                }
            }
        }
    }

    /** The document's dice in numbers without bounds, folded to 64 bits by hand. */
    private static int thrown(long seed, int papers, int draw) {
        BigInteger fold = BigInteger.ONE.shiftLeft(64);
        BigInteger s = BigInteger.valueOf(seed).mod(fold);
        for (int d = 0; d <= draw; d++) {
            s = s.multiply(new BigInteger("6364136223846793005")).add(new BigInteger("1442695040888963407")).mod(fold);
        }
        return s.shiftRight(33).mod(BigInteger.valueOf(papers)).intValue();
    }

    private static void promise12Waits() {
        SureCount x = Offices.sixToFour();
        DUE.is(-1, "no draws: waits()", x::waits);
        x.draw(4);
        DUE.is(0, "waits() for paper 8", x::waits);
        x.read(1, 0, 1);
        DUE.is(0, "a later one read: waits()", x::waits);
        x.read(8, 2, 2);
        DUE.is(2, "waits() for paper 3", x::waits);
        x.lose(3, true);
        DUE.is(-1, "a lost one isn't waited for", x::waits);
        x.lose(3, false);
        DUE.is(2, "found again: waits()", x::waits);
        x.read(3, 1, 1);
        DUE.is(-1, "all read: waits()", x::waits);
        x.lose(0, true);
        x.draw(60);
        int waiting = 4;
        while (x.drawn(waiting) == 8 || x.drawn(waiting) == 1 || x.drawn(waiting) == 3 || x.drawn(waiting) == 0) {
            waiting++;
        }
        DUE.is(waiting, "more draws: waits()", x::waits);
    }

    private static void promise13Pulled() {
        SureCount x = new SureCount();
        x.race(2, 1);
        x.box();
        x.box();
        x.box();
        for (int p = 0; p < 10; p++) {
            x.paper(p % 2, 1);
        }
        DUE.is(0, "unsealed: pulled(0)", () -> x.pulled(0));
        x.seal(7);
        x.draw(4);
        DUE.is(3, "8, 1, 3, 3: pulled(NONE)", () -> x.pulled(SureCount.NONE));
        DUE.is(1, "pulled(0)", () -> x.pulled(0));
        DUE.is(2, "pulled(1)", () -> x.pulled(1));
        DUE.is(0, "pulled(2), an empty box", () -> x.pulled(2));
        DUE.noSuchElement("pulled(3)", () -> x.pulled(3));
        DUE.noSuchElement("pulled(-2)", () -> x.pulled(-2));
        DUE.noSuchElement("pulled(10)", () -> x.pulled(10));
        x.read(0, 0, 1);
        x.lose(3, true);
        DUE.is(3, "neither reading nor losing draws", () -> x.pulled(SureCount.NONE));
    }
}
