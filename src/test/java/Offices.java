import java.math.BigInteger;

/** Offices in states that several tests begin with. */
final class Offices {
    private static final BigInteger FOLD = BigInteger.ONE.shiftLeft(64);
    private static final BigInteger FACTOR = new BigInteger("6364136223846793005");
    private static final BigInteger STEP = new BigInteger("1442695040888963407");

    private Offices() {
    }

    /** One race and one box; the words are put in as papers in their order. */
    static SureCount withWords(int candidates, int winners, int... words) {
        SureCount x = new SureCount();
        x.race(candidates, winners);
        x.box();
        for (int word : words) {
            x.paper(0, word);
        }
        return x;
    }

    /** As many words of each candidate as it has votes, candidate 1 first. */
    static int[] words(int... votes) {
        int size = 0;
        for (int v : votes) {
            size += v;
        }
        int[] words = new int[size];
        int next = 0;
        for (int c = 1; c <= votes.length; c++) {
            for (int i = 0; i < votes[c - 1]; i++) {
                words[next] = c;
                next++;
            }
        }
        return words;
    }

    /** Six papers for 1 and four for 2, sealed with 7: N 10, MARGIN 2; the first draws are 8, 1, 3, 3. */
    static SureCount sixToFour() {
        SureCount x = withWords(2, 1, words(6, 4));
        x.seal(7);
        return x;
    }

    /** Two races, two boxes and four papers, the last one lost; not sealed. */
    static SureCount unsealed() {
        SureCount x = new SureCount();
        x.race(3, 1);
        x.race(2, 1);
        x.box();
        x.box();
        x.paper(0, 1 + 8);
        x.paper(1, 1 + 2 * 8);
        x.paper(0, 3 + 8);
        x.paper(1, 2 + 7 * 8);
        x.lose(3, true);
        return x;
    }

    /** The unsealed one at work: its draws are of 1, 1, 3, 0 and 2, which alone is neither read nor lost. */
    static SureCount atWork() {
        SureCount x = unsealed();
        x.seal(49);
        x.draw(5);
        x.read(0, 0, 2 + 8);
        x.read(0, 2, 1 + 8);
        x.read(1, 1, 1 + 2 * 8);
        return x;
    }

    /** One hundred draws: all papers are drawn, where there are a dozen or so. */
    static SureCount sealedAndDrawn(SureCount x, long seed) {
        x.seal(seed);
        x.draw(100);
        return x;
    }

    static int firstDrawOf(SureCount x, int paper) {
        for (int d = 0; d < x.count(4); d++) {
            if (x.drawn(d) == paper) {
                return d;
            }
        }
        throw new IllegalStateException("paper " + paper + " was never drawn: the test needs another seed");
    }

    /** The document's dice in numbers without bounds, folded to 64 bits by hand: the papers of the first draws. */
    static int[] thrown(long seed, int papers, int draws) {
        int[] thrown = new int[draws];
        BigInteger s = BigInteger.valueOf(seed).mod(FOLD);
        for (int d = 0; d < draws; d++) {
            s = s.multiply(FACTOR).add(STEP).mod(FOLD);
            thrown[d] = s.shiftRight(33).mod(BigInteger.valueOf(papers)).intValue();
        }
        return thrown;
    }

    /** The dice thrown backwards: the seed that becomes s at the first draw. */
    static long seedThatBecomes(long s) {
        return BigInteger.valueOf(s).subtract(STEP).multiply(FACTOR.modInverse(FOLD)).longValue();
    }

    /** A seed whose first draw is of this paper, however many more there are. */
    static long seedThatDraws(int paper) {
        return seedThatBecomes((long) paper << 33);
    }
}
