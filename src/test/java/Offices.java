/** Offices in states that several tests begin with. */
final class Offices {
    private Offices() {
    }

    /** One race and one box; the words are put in as papers in their order. */
    static SureCount withWords(int candidates, int winners, int... words) {
        SureCount x = new SureCount();
        x.race(candidates, winners);
        x.box();
        for (int word : words) {
            x.paper(0, word);
        }
        return x;
    }

    /** Six papers for 1 and four for 2, sealed with 7: N 10, MARGIN 2; the first draws are 8, 1, 3, 3. */
    static SureCount sixToFour() {
        SureCount x = withWords(2, 1, 1, 1, 1, 1, 1, 1, 2, 2, 2, 2);
        x.seal(7);
        return x;
    }

    /** All its papers are drawn: 100 draws of at most ten papers. */
    static SureCount sealedAndDrawn(SureCount x, long seed) {
        x.seal(seed);
        x.draw(100);
        return x;
    }

    static int firstDrawOf(SureCount x, int paper) {
        for (int d = 0; d < x.count(4); d++) {
            if (x.drawn(d) == paper) {
                return d;
            }
        }
        throw new IllegalStateException("paper " + paper + " was never drawn: the test needs another seed");
    }
}
