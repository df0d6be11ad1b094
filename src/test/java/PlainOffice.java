import java.math.BigInteger;
import java.util.ArrayList;
import java.util.HashSet;
import java.util.List;
import java.util.NoSuchElementException;
import java.util.Set;

/**
 * The document once more, as slowly and plainly as it can be said: nothing is kept but what was told, all else is
 * worked out anew at each call, in numbers without bounds.
 */
final class PlainOffice {
    private static final BigInteger FULL = BigInteger.valueOf(1_000_000_000);

    private static final class PlainPaper {
        int box;
        int word;
        boolean lost;
        final Integer[] hands = new Integer[3];

        boolean isRead() {
            return hands[0] != null || hands[1] != null || hands[2] != null;
        }
    }

    /** X and m of a taint. */
    private record Taint(int x, int m) {
    }

    private final List<int[]> races = new ArrayList<>();
    private final List<PlainPaper> papers = new ArrayList<>();
    private final List<Integer> draws = new ArrayList<>();
    private int boxes = 0;
    private Long seed = null;

    int race(int c, int w) {
        if (races.size() == 5 || !papers.isEmpty() || c < 2 || c > 6 || w < 1 || w > c - 1) {
            return -1;
        }
        races.add(new int[] {c, w});
        return races.size() - 1;
    }

    int box() {
        return boxes == 10 || seed != null ? -1 : boxes++;
    }

    int paper(int box, int word) {
        exists(box, boxes);
        if (papers.size() == 300 || seed != null || !fits(word)) {
            return -1;
        }
        PlainPaper p = new PlainPaper();
        p.box = box;
        p.word = word;
        papers.add(p);
        return papers.size() - 1;
    }

    boolean lose(int paper, boolean is) {
        exists(paper, papers.size());
        PlainPaper p = papers.get(paper);
        if (p.isRead()) {
            throw new IllegalStateException();
        }
        boolean was = p.lost;
        p.lost = is;
        return was;
    }

    boolean seal(long s) {
        if (seed != null || papers.isEmpty()) {
            return false;
        }
        seed = s;
        return true;
    }

    int votes(int race, int candidate, int what) {
        exists(race, races.size());
        exists(candidate - 1, races.get(race)[0]);
        exists(what, 2);
        int votes = 0;
        for (PlainPaper p : papers) {
            int mark = what == 1 && p.isRead() ? readingOf(p, race) : bits(p.word, race);
            votes += mark == candidate ? 1 : 0;
        }
        return votes;
    }

    boolean wins(int race, int candidate, int what) {
        votes(race, candidate, what);
        return winners(race, what).contains(candidate);
    }

    int about(int race, int what) {
        exists(race, races.size());
        exists(what, 4);
        if (what == 0) {
            return (int) papers.stream().filter(p -> bits(p.word, race) != 7).count();
        }
        return what == 1 ? marginOf(race) : races.get(race)[what - 2];
    }

    int draw(int n) {
        if (n < 0 || n > 100) {
            throw new IllegalArgumentException();
        }
        if (seed == null || draws.size() + n > 2000) {
            return -1;
        }
        for (int i = 0; i < n; i++) {
            seed = seed * 6364136223846793005L + 1442695040888963407L;
            BigInteger high = new BigInteger(Long.toUnsignedString(seed)).shiftRight(33);
            draws.add(high.mod(BigInteger.valueOf(papers.size())).intValue());
        }
        return draws.size();
    }

    int drawn(int draw) {
        exists(draw, draws.size());
        return draws.get(draw);
    }

    int waits() {
        for (int d = 0; d < draws.size(); d++) {
            PlainPaper p = papers.get(draws.get(d));
            if (!p.lost && !p.isRead()) {
                return d;
            }
        }
        return -1;
    }

    int pulled(int box) {
        if (box != -1) {
            exists(box, boxes);
        }
        Set<Integer> unlike = new HashSet<>();
        for (int p : draws) {
            if (box == -1 || papers.get(p).box == box) {
                unlike.add(p);
            }
        }
        return unlike.size();
    }

    boolean read(int paper, int hand, int word) {
        exists(paper, papers.size());
        exists(hand, 3);
        PlainPaper p = papers.get(paper);
        if (seed == null || p.lost || p.hands[hand] != null || !fits(word)) {
            return false;
        }
        p.hands[hand] = word;
        return true;
    }

    int reading(int paper, int race) {
        exists(paper, papers.size());
        exists(race, races.size());
        PlainPaper p = papers.get(paper);
        return p.isRead() ? readingOf(p, race) : -1;
    }

    int risk(int race) {
        exists(race, races.size());
        if (seed == null || marginOf(race) == 0) {
            return -1;
        }
        BigInteger risk = FULL;
        for (int d = 0; d < told(); d++) {
            Taint t = taintOf(papers.get(draws.get(d)), race);
            if (t != null) {
                risk = carried(risk, race, t);
            }
        }
        return risk.intValue();
    }

    int taken(int race) {
        if (risk(race) == -1) {
            return 0;
        }
        int taken = 0;
        for (int d = 0; d < told(); d++) {
            taken += taintOf(papers.get(draws.get(d)), race) != null ? 1 : 0;
        }
        return taken;
    }

    int taint(int race, int draw) {
        exists(race, races.size());
        exists(draw, draws.size());
        if (risk(race) == -1 || draw >= told()) {
            return -10;
        }
        Taint t = taintOf(papers.get(draws.get(draw)), race);
        return t == null ? -10 : t.x();
    }

    int need(int race, int limit) {
        exists(race, races.size());
        if (limit < 0 || limit > 1_000_000_000) {
            throw new IllegalArgumentException();
        }
        int now = risk(race);
        if (now == -1) {
            return -1;
        }
        BigInteger n22 = BigInteger.valueOf(22L * about(race, 0));
        BigInteger part = n22.subtract(BigInteger.valueOf(10L * marginOf(race)));
        BigInteger risk = BigInteger.valueOf(now);
        BigInteger aim = BigInteger.valueOf(limit);
        int more = 0;
        while (risk.compareTo(aim) > 0 && more <= 100_000) {
            risk = up(risk.multiply(part), n22);
            more++;
        }
        return more > 100_000 ? -1 : more;
    }

    int count(int what) {
        exists(what, 7);
        int lost = (int) papers.stream().filter(p -> p.lost).count();
        int read = (int) papers.stream().filter(PlainPaper::isRead).count();
        return new int[] {races.size(), boxes, papers.size(), lost, draws.size(), read, seed == null ? 0 : 1}[what];
    }

    private static void exists(int number, int howMany) {
        if (number < 0 || number >= howMany) {
            throw new NoSuchElementException();
        }
    }

    private static int bits(int word, int race) {
        return (word >> 3 * race) & 7;
    }

    private boolean fits(int word) {
        for (int r = 0; r < races.size(); r++) {
            int mark = bits(word, r);
            if (mark > races.get(r)[0] && mark != 7) {
                return false;
            }
        }
        return true;
    }

    private static int readingOf(PlainPaper p, int race) {
        List<Integer> marks = new ArrayList<>();
        for (Integer word : p.hands) {
            if (word != null) {
                marks.add(bits(word, race));
            }
        }
        if (marks.size() == 1) {
            return marks.get(0);
        }
        for (int mark = 0; mark <= 7; mark++) {
            int asked = mark;
            if (marks.stream().filter(m -> m == asked).count() >= 2) {
                return mark;
            }
        }
        return 0;
    }

    private List<Integer> winners(int race, int what) {
        List<Integer> ranked = new ArrayList<>();
        for (int c = 1; c <= races.get(race)[0]; c++) {
            ranked.add(c);
        }
        ranked.sort((a, b) -> votes(race, b, what) - votes(race, a, what));
        return ranked.subList(0, races.get(race)[1]);
    }

    private int marginOf(int race) {
        List<Integer> winners = winners(race, 0);
        int least = Integer.MAX_VALUE;
        for (int w : winners) {
            for (int l = 1; l <= races.get(race)[0]; l++) {
                if (!winners.contains(l)) {
                    least = Math.min(least, votes(race, w, 0) - votes(race, l, 0));
                }
            }
        }
        return least;
    }

    private int told() {
        return waits() == -1 ? draws.size() : waits();
    }

    /** Null: a draw of this paper isn't taken for the race. */
    private Taint taintOf(PlainPaper p, int race) {
        int word = bits(p.word, race);
        int reading = p.lost ? 7 : readingOf(p, race);
        if (word == 7 && reading == 7) {
            return null;
        }
        List<Integer> winners = winners(race, 0);
        Taint worst = null;
        for (int w = 1; w <= races.get(race)[0]; w++) {
            for (int l = 1; l <= races.get(race)[0]; l++) {
                if (winners.contains(w) && !winners.contains(l)) {
                    int x = gives(word, w) - gives(word, l);
                    x = p.lost ? x + 1 : x - (gives(reading, w) - gives(reading, l));
                    int m = votes(race, w, 0) - votes(race, l, 0);
                    if (worst == null || x * worst.m() > worst.x() * m) {
                        worst = new Taint(x, m);
                    }
                }
            }
        }
        return worst;
    }

    private static int gives(int mark, int candidate) {
        return mark == candidate ? 1 : 0;
    }

    private BigInteger carried(BigInteger risk, int race, Taint t) {
        BigInteger n22 = BigInteger.valueOf(22L * about(race, 0));
        BigInteger m22 = BigInteger.valueOf(22L * t.m());
        long v = marginOf(race);
        BigInteger above = risk.multiply(n22.subtract(BigInteger.valueOf(10 * v))).multiply(m22);
        BigInteger below = n22.multiply(m22.subtract(BigInteger.valueOf(10L * t.x() * v)));
        return up(above, below).min(FULL);
    }

    private static BigInteger up(BigInteger above, BigInteger below) {
        BigInteger[] parts = above.divideAndRemainder(below);
        return parts[1].signum() == 0 ? parts[0] : parts[0].add(BigInteger.ONE);
    }
}
