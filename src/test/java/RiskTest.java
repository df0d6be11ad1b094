import java.math.BigInteger;
import java.util.Arrays;

/** Promises 16 to 19: risk, taken, taint, need. */
public final class RiskTest {
    private static final Due DUE = new Due();
    private static final int FULL = 1_000_000_000;
    private static final int NOT_TAKEN = -10;

    public static void main(String[] args) {
        promise16RiskOfOneDraw();
        promise16RiskGoesOn();
        promise16RiskIsNone();
        promise16LargestNumbers();
        promise17Taken();
        promise17TakenByWordOrReading();
        promise18Taint();
        promise18TaintOfLikeOnes();
        promise18TaintIsTheGreatestQuotient();
        promise18TaintBehindOneThatWaits();
        promise19Need();
        promise19NeedOfSmallRisks();
        promise19NeedIsNone();
        DUE.end();
    }

    /** Draw 0 is of paper 8, whose word is 2, the loser; N is 10, V and m are 2. */
    private static void promise16RiskOfOneDraw() {
        int[] marks = {2, 0, 7, 1};
        int[] risks = {909090910, 625000000, 625000000, 476190477};
        int[] gaps = {0, -1, -1, -2};
        for (int i = 0; i < marks.length; i++) {
            SureCount x = Offices.sixToFour();
            DUE.is(FULL, "ahead of all draws: risk(0)", () -> x.risk(0));
            x.draw(1);
            DUE.is(FULL, "ahead of all readings: risk(0)", () -> x.risk(0));
            x.read(8, 1, marks[i]);
            DUE.is(risks[i], "2 read as " + marks[i] + ": risk(0)", () -> x.risk(0));
            DUE.is(gaps[i], "2 read as " + marks[i] + ": taint(0, 0)", () -> x.taint(0, 0));
        }
        SureCount x = Offices.sixToFour();
        x.draw(1);
        x.lose(8, true);
        DUE.is(909090910, "a lost loser's: risk(0)", () -> x.risk(0));
        DUE.is(0, "a lost loser's: taint(0, 0)", () -> x.taint(0, 0));
    }

    /** The draws are of 8, 1, 3, 3. */
    private static void promise16RiskGoesOn() {
        SureCount x = Offices.sixToFour();
        x.draw(4);
        x.read(3, 0, 1);
        DUE.is(FULL, "draw 0 waits", () -> x.risk(0));
        x.read(8, 0, 1);
        DUE.is(476190477, "draw 1 waits", () -> x.risk(0));
        x.read(1, 0, 0);
        DUE.is(655909749, "all the way: 5 / 3, then 10 / 11 twice", () -> x.risk(0));
        x.read(1, 1, 2);
        DUE.is(655909749, "hands disagree: blank too", () -> x.risk(0));
        x.read(1, 2, 2);
        DUE.is(826446282, "at most 1,000,000,000, then 10 / 11 twice", () -> x.risk(0));
        SureCount y = Offices.sixToFour();
        y.draw(4);
        y.read(8, 0, 2);
        y.read(1, 0, 1);
        y.lose(3, true);
        DUE.is(FULL, "a lost winner's twice: at most 1,000,000,000", () -> y.risk(0));
        DUE.is(2, "a lost winner's: taint(0, 3)", () -> y.taint(0, 3));
        y.lose(3, false);
        DUE.is(826446282, "found again it waits", () -> y.risk(0));
    }

    private static void promise16RiskIsNone() {
        SureCount x = Offices.withWords(2, 1, 1, 1, 2);
        DUE.is(-1, "unsealed: risk(0)", () -> x.risk(0));
        DUE.noSuchElement("risk(1)", () -> x.risk(1));
        DUE.noSuchElement("risk(-1)", () -> x.risk(-1));
        SureCount y = Offices.sealedAndDrawn(Offices.withWords(2, 1, 1, 2), 5);
        DUE.is(-1, "a margin of 0: risk(0)", () -> y.risk(0));
        y.read(0, 0, 1);
        y.read(1, 0, 0);
        DUE.is(-1, "a margin of 0 by the word stays: risk(0)", () -> y.risk(0));
        SureCount z = Offices.sealedAndDrawn(Offices.withWords(2, 1, 7, 7), 5);
        DUE.is(-1, "a race on no paper: risk(0)", () -> z.risk(0));
    }

    private static void promise16LargestNumbers() {
        int[] words = new int[300];
        Arrays.fill(words, 1);
        SureCount x = Offices.withWords(2, 1, words);
        x.seal(99);
        x.draw(3);
        for (int d = 0; d < 3; d++) {
            x.read(x.drawn(d), 0, 1);
        }
        int due = FULL;
        for (int d = 0; d < 3; d++) {
            due = carried(due, 300, 300, 0, 300);
        }
        int last = due;
        DUE.is(last, "300 papers, all for one: risk(0)", () -> x.risk(0));
        SureCount y = Offices.withWords(2, 1, words);
        y.seal(99);
        y.draw(1);
        y.read(y.drawn(0), 0, 2);
        DUE.is(FULL, "300 papers, the worst: risk(0)", () -> y.risk(0));
        DUE.is(2, "300 papers, the worst: taint(0, 0)", () -> y.taint(0, 0));
    }

    private static void promise17Taken() {
        SureCount x = Offices.sixToFour();
        DUE.is(0, "no draws: taken(0)", () -> x.taken(0));
        x.draw(4);
        DUE.is(0, "none read: taken(0)", () -> x.taken(0));
        x.read(3, 0, 1);
        DUE.is(0, "draw 0 waits: taken(0)", () -> x.taken(0));
        x.lose(8, true);
        DUE.is(1, "a lost one is taken", () -> x.taken(0));
        x.read(1, 0, 7);
        DUE.is(4, "on it by the word alone; one drawn twice", () -> x.taken(0));
        DUE.noSuchElement("taken(1)", () -> x.taken(1));
        DUE.noSuchElement("taken(-1)", () -> x.taken(-1));
        SureCount y = Offices.sealedAndDrawn(Offices.withWords(2, 1, 1, 2), 5);
        y.read(0, 0, 1);
        y.read(1, 0, 2);
        DUE.is(0, "a margin of 0: taken(0)", () -> y.taken(0));
        DUE.is(0, "unsealed: taken(0)", () -> Offices.withWords(2, 1, 1).taken(0));
    }

    /** Draw 0 is of paper 8, which by the word doesn't have race 1; of race 1 N is 9, V and m are 5. */
    private static void promise17TakenByWordOrReading() {
        int[] marks = {7, 0, 1, 2};
        int[] taints = {NOT_TAKEN, 0, -1, 1};
        for (int i = 0; i < marks.length; i++) {
            SureCount x = offTheEighth();
            x.read(8, 0, 2 + 8 * marks[i]);
            int due = taints[i];
            DUE.is(due == NOT_TAKEN ? 0 : 1, "read as " + marks[i] + ": taken(1)", () -> x.taken(1));
            DUE.is(due, "read as " + marks[i] + ": taint(1, 0)", () -> x.taint(1, 0));
            DUE.is(due == NOT_TAKEN ? FULL : carried(FULL, 9, 5, due, 5), "read as " + marks[i] + ": risk(1)",
                    () -> x.risk(1));
            DUE.is(1, "taken(0)", () -> x.taken(0));
        }
        SureCount x = offTheEighth();
        x.lose(8, true);
        DUE.is(0, "lost: taken(1)", () -> x.taken(1));
        DUE.is(NOT_TAKEN, "lost: taint(1, 0)", () -> x.taint(1, 0));
        DUE.is(FULL, "lost: risk(1)", () -> x.risk(1));
        DUE.is(1, "lost: taken(0)", () -> x.taken(0));
    }

    private static SureCount offTheEighth() {
        SureCount x = new SureCount();
        x.race(2, 1);
        x.race(2, 1);
        x.box();
        int[] second = {1, 1, 1, 1, 1, 1, 1, 2, 7, 2};
        for (int p = 0; p < 10; p++) {
            x.paper(0, (p < 6 ? 1 : 2) + 8 * second[p]);
        }
        x.seal(7);
        x.draw(1);
        return x;
    }

    /** Draw 1 is of paper 1, whose word is 1, the winner. */
    private static void promise18Taint() {
        int[] marks = {1, 0, 7, 2};
        int[] gaps = {0, 1, 1, 2};
        for (int i = 0; i < marks.length; i++) {
            SureCount x = Offices.sixToFour();
            x.draw(2);
            x.read(8, 0, 2);
            DUE.is(NOT_TAKEN, "as yet: taint(0, 1)", () -> x.taint(0, 1));
            x.read(1, 0, marks[i]);
            DUE.is(gaps[i], "1 read as " + marks[i] + ": taint(0, 1)", () -> x.taint(0, 1));
        }
        SureCount x = Offices.sixToFour();
        DUE.noSuchElement("no draws: taint(0, 0)", () -> x.taint(0, 0));
        x.draw(2);
        DUE.noSuchElement("taint(0, 2)", () -> x.taint(0, 2));
        DUE.noSuchElement("taint(0, -1)", () -> x.taint(0, -1));
        DUE.noSuchElement("taint(1, 0)", () -> x.taint(1, 0));
        DUE.noSuchElement("taint(-1, 0)", () -> x.taint(-1, 0));
        SureCount y = Offices.sealedAndDrawn(Offices.withWords(2, 1, 1, 2), 5);
        y.read(0, 0, 1);
        y.read(1, 0, 2);
        DUE.is(NOT_TAKEN, "a margin of 0: taint(0, 0)", () -> y.taint(0, 0));
        DUE.noSuchElement("a margin of 0: taint(0, 100)", () -> y.taint(0, 100));
    }

    private static void promise18TaintOfLikeOnes() {
        // 6, 4 and 2 votes: 1 / 2 over the first loser is like 2 / 4 over the second.
        DUE.is(1, "the first loser", () -> taintOf(3, 1, 3, 6, 4, 2));
        DUE.is(2, "the first winner", () -> taintOf(3, 2, 3, 6, 4, 2));
        // 4, 6 and 2 votes: the first winner has the lesser margin.
        DUE.is(2, "the first winner by its number, not by its votes", () -> taintOf(3, 2, 3, 4, 6, 2));
        // The loser with fewer votes has the least number.
        DUE.is(2, "the first loser by its number, not by its votes", () -> taintOf(3, 1, 2, 6, 2, 4));
    }

    private static void promise18TaintIsTheGreatestQuotient() {
        DUE.is(1, "1 / 1 is above 2 / 4", () -> taintOf(3, 1, 3, 6, 5, 2));
        DUE.is(2, "2 / 5 is above 1 / 4", () -> taintOf(3, 1, 3, 7, 3, 2));
        int[] words = words(6, 5, 2);
        SureCount x = allButLast(3, 1, words);
        int draw = Offices.firstDrawOf(x, 12);
        x.read(12, 0, 1);
        DUE.is(-2, "-2 / 4 is above -1 / 1", () -> x.taint(0, draw));
        int due = FULL;
        for (int d = 0; d < x.count(4); d++) {
            due = x.drawn(d) == 12 ? carried(due, 13, 1, -2, 4) : carried(due, 13, 1, 0, 1);
        }
        int last = due;
        DUE.is(last, "with that X and that m: risk(0)", () -> x.risk(0));
    }

    /** X of a paper of candidate 1 that is read as a mark, all others as the word has them. */
    private static int taintOf(int candidates, int winners, int mark, int... votes) {
        int[] words = words(votes);
        SureCount x = Offices.sealedAndDrawn(Offices.withWords(candidates, winners, words), 11);
        x.read(0, 0, mark);
        for (int p = 1; p < words.length; p++) {
            x.read(p, 0, words[p]);
        }
        return x.taint(0, Offices.firstDrawOf(x, 0));
    }

    private static SureCount allButLast(int candidates, int winners, int[] words) {
        SureCount x = Offices.sealedAndDrawn(Offices.withWords(candidates, winners, words), 11);
        for (int p = 0; p < words.length - 1; p++) {
            x.read(p, 0, words[p]);
        }
        return x;
    }

    private static int[] words(int... votes) {
        int size = 0;
        for (int v : votes) {
            size += v;
        }
        int[] words = new int[size];
        int next = 0;
        for (int c = 1; c <= votes.length; c++) {
            for (int i = 0; i < votes[c - 1]; i++) {
                words[next] = c;
                next++;
            }
        }
        return words;
    }

    private static void promise18TaintBehindOneThatWaits() {
        SureCount x = Offices.sixToFour();
        x.draw(4);
        x.read(1, 0, 1);
        x.lose(3, true);
        DUE.is(NOT_TAKEN, "read, behind one that waits: taint(0, 1)", () -> x.taint(0, 1));
        DUE.is(NOT_TAKEN, "lost, behind one that waits: taint(0, 2)", () -> x.taint(0, 2));
        x.read(8, 0, 2);
        DUE.is(0, "no more waiting: taint(0, 1)", () -> x.taint(0, 1));
        DUE.is(2, "no more waiting: taint(0, 2)", () -> x.taint(0, 2));
    }

    private static void promise19Need() {
        SureCount x = Offices.sixToFour();
        DUE.is(0, "need(0, 1000000000)", () -> x.need(0, FULL));
        DUE.is(1, "need(0, 999999999)", () -> x.need(0, FULL - 1));
        DUE.is(1, "need(0, 909090910)", () -> x.need(0, 909090910));
        DUE.is(2, "need(0, 909090909)", () -> x.need(0, 909090909));
        DUE.is(8, "need(0, 500000000)", () -> x.need(0, 500000000));
        x.draw(4);
        DUE.is(8, "draws that wait change nothing", () -> x.need(0, 500000000));
        x.read(8, 0, 2);
        x.read(1, 0, 1);
        x.read(3, 0, 1);
        DUE.is(4, "behind four draws: need(0, 500000000)", () -> x.need(0, 500000000));
        DUE.is(0, "it is sure: need(0, 683013457)", () -> x.need(0, 683013457));
        DUE.is(1, "it isn't quite: need(0, 683013456)", () -> x.need(0, 683013456));
        DUE.illegalArgument("need(0, -1)", () -> x.need(0, -1));
        DUE.illegalArgument("need(0, 1000000001)", () -> x.need(0, FULL + 1));
        DUE.illegalArgument("need(0, min)", () -> x.need(0, Integer.MIN_VALUE));
        DUE.illegalArgument("need(0, max)", () -> x.need(0, Integer.MAX_VALUE));
        DUE.noSuchElement("need(1, 5)", () -> x.need(1, 5));
        DUE.noSuchElement("need(-1, 5)", () -> x.need(-1, 5));
    }

    private static void promise19NeedOfSmallRisks() {
        SureCount x = Offices.sixToFour();
        DUE.is(199, "need(0, 10)", () -> x.need(0, 10));
        DUE.is(-1, "cut up it stays at 10: need(0, 9)", () -> x.need(0, 9));
        DUE.is(-1, "need(0, 0)", () -> x.need(0, 0));
        int[] words = words(150, 149);
        SureCount y = Offices.withWords(2, 1, words);
        y.paper(0, 0);
        y.seal(1);
        DUE.is(9767, "the slowest race: need(0, 659)", () -> y.need(0, 659));
        DUE.is(-1, "cut up it stays at 659: need(0, 658)", () -> y.need(0, 658));
        SureCount z = Offices.withWords(2, 1, 1);
        z.seal(1);
        DUE.is(34, "the fastest race: need(0, 2)", () -> z.need(0, 2));
        DUE.is(-1, "cut up it stays at 2: need(0, 1)", () -> z.need(0, 1));
    }

    private static void promise19NeedIsNone() {
        SureCount x = Offices.withWords(2, 1, 1, 1, 2);
        DUE.is(-1, "unsealed: need(0, 1000000000)", () -> x.need(0, FULL));
        DUE.illegalArgument("unsealed: need(0, -1)", () -> x.need(0, -1));
        SureCount y = Offices.withWords(2, 1, 1, 2);
        y.seal(1);
        DUE.is(-1, "a margin of 0: need(0, 1000000000)", () -> y.need(0, FULL));
        DUE.illegalArgument("a margin of 0: need(0, 1000000001)", () -> y.need(0, FULL + 1));
    }

    /** The document's formula in numbers without bounds. */
    private static int carried(int risk, int size, int margin, int gap, int gapMargin) {
        BigInteger above = BigInteger.valueOf(risk)
                .multiply(BigInteger.valueOf(22L * size - 10L * margin))
                .multiply(BigInteger.valueOf(22L * gapMargin));
        BigInteger below = BigInteger.valueOf(22L * size)
                .multiply(BigInteger.valueOf(22L * gapMargin - 10L * gap * margin));
        BigInteger[] parts = above.divideAndRemainder(below);
        BigInteger up = parts[1].signum() == 0 ? parts[0] : parts[0].add(BigInteger.ONE);
        return up.min(BigInteger.valueOf(FULL)).intValue();
    }
}
