import java.math.BigInteger;

/** The document's formula for RISK in numbers without bounds. */
final class Risks {
    static final int FULL = 1_000_000_000;

    private Risks() {
    }

    static int carried(int risk, int size, int margin, int gap, int gapMargin) {
        BigInteger above = BigInteger.valueOf(risk)
                .multiply(BigInteger.valueOf(22L * size - 10L * margin))
                .multiply(BigInteger.valueOf(22L * gapMargin));
        BigInteger below = BigInteger.valueOf(22L * size)
                .multiply(BigInteger.valueOf(22L * gapMargin - 10L * gap * margin));
        BigInteger[] parts = above.divideAndRemainder(below);
        BigInteger up = parts[1].signum() == 0 ? parts[0] : parts[0].add(BigInteger.ONE);
        return up.min(BigInteger.valueOf(FULL)).intValue();
    }

    /** RISK behind all draws of an office, of which one paper alone has a taint: this X over this m. */
    static int behindAll(SureCount x, int size, int margin, int tainted, int gap, int gapMargin) {
        int risk = FULL;
        int draws = x.count(4);
        for (int d = 0; d < draws; d++) {
            boolean isTainted = x.drawn(d) == tainted;
            risk = carried(risk, size, margin, isTainted ? gap : 0, isTainted ? gapMargin : margin);
        }
        return risk;
    }
}
