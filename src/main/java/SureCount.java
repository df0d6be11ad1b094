import java.util.Arrays;
import java.util.NoSuchElementException;

/** An office that makes counts sure: sealed words, drawn papers, hands that read them, and the risk of each race. */
public final class SureCount {
    public static final int NONE = -1;

    private static final int MOST_RACES = 5;
    private static final int MOST_BOXES = 10;
    private static final int MOST_PAPERS = 300;
    private static final int MOST_DRAWS = 2000;
    private static final int MOST_DRAWS_AT_ONCE = 100;
    private static final int MOST_NEED = 100_000;
    private static final int LEAST_CANDIDATES = 2;
    private static final int MOST_CANDIDATES = 6;
    // Three winners over three losers of six candidates make the most pairs.
    private static final int MOST_PAIRS = 9;
    private static final int HANDS = 3;

    private static final int BITS_A_RACE = 3;
    private static final int MARKS = 8;
    private static final int BLANK = 0;
    private static final int NOT_ON_IT = 7;

    private static final int BY_WORD = 0;
    private static final int BY_HANDS = 1;

    private static final int FULL_RISK = 1_000_000_000;
    private static final int NOT_TAKEN = NONE - 9;
    // The two weights of the document's formula for RISK.
    private static final long WHOLE_WEIGHT = 22;
    private static final long MARGIN_WEIGHT = 10;

    private final Race[] races;
    private final Papers papers;
    private final Draws draws;
    private final Walk walk;
    private final Tally handTally;
    private int raceCount;
    private int boxCount;
    private boolean isSealed;

    public SureCount() {
        races = new Race[MOST_RACES];
        for (int r = 0; r < MOST_RACES; r++) {
            races[r] = new Race();
        }
        papers = new Papers();
        draws = new Draws();
        walk = new Walk();
        handTally = new Tally();
        raceCount = 0;
        boxCount = 0;
        isSealed = false;
    }

    public int race(int candidates, int winners) {
        if (raceCount >= MOST_RACES || papers.size > 0) {
            return NONE;
        }
        if (candidates < LEAST_CANDIDATES || candidates > MOST_CANDIDATES) {
            return NONE;
        }
        if (winners < 1 || winners >= candidates) {
            return NONE;
        }
        races[raceCount].open(candidates, winners);
        raceCount++;
        return raceCount - 1;
    }

    public int box() {
        if (boxCount >= MOST_BOXES || isSealed) {
            return NONE;
        }
        boxCount++;
        return boxCount - 1;
    }

    public int paper(int box, int word) throws NoSuchElementException {
        if (!hasBox(box)) {
            throw new NoSuchElementException("no such box");
        }
        if (papers.size >= MOST_PAPERS || isSealed || !isPossible(word)) {
            return NONE;
        }
        for (int r = 0; r < raceCount; r++) {
            races[r].addWord(markOf(word, r));
        }
        return papers.add(box, word);
    }

    public boolean lose(int paper, boolean is) throws NoSuchElementException, IllegalStateException {
        if (!papers.has(paper)) {
            throw new NoSuchElementException("no such paper");
        }
        if (papers.isReadByHand(paper)) {
            throw new IllegalStateException("a hand read this paper");
        }
        boolean was = papers.isLost[paper];
        papers.isLost[paper] = is;
        return was;
    }

    public boolean seal(long seed) {
        if (isSealed || papers.size == 0) {
            return false;
        }
        isSealed = true;
        draws.begin(seed);
        return true;
    }

    public int votes(int race, int candidate, int what) throws NoSuchElementException {
        if (!canTally(race, candidate, what)) {
            throw new NoSuchElementException("no such race, candidate or way of counting");
        }
        return tallyOf(race, what).papersWith(candidate);
    }

    public boolean wins(int race, int candidate, int what) throws NoSuchElementException {
        if (!canTally(race, candidate, what)) {
            throw new NoSuchElementException("no such race, candidate or way of counting");
        }
        return races[race].isWinner(candidate, tallyOf(race, what));
    }

    public int about(int race, int what) throws NoSuchElementException {
        if (!hasRace(race)) {
            throw new NoSuchElementException("no such race");
        }
        switch (what) {
            case 0:
                return races[race].size;
            case 1:
                return races[race].margin;
            case 2:
                return races[race].candidates;
            case 3:
                return races[race].seats;
            default:
                throw new NoSuchElementException("no such thing about a race");
        }
    }

    public int draw(int n) throws IllegalArgumentException {
        if (n < 0 || n > MOST_DRAWS_AT_ONCE) {
            throw new IllegalArgumentException("0 to 100 draws at once");
        }
        if (!isSealed || draws.size + n > MOST_DRAWS) {
            return NONE;
        }
        for (int i = 0; i < n; i++) {
            papers.wasDrawn[draws.addOne(papers.size)] = true;
        }
        return draws.size;
    }

    public int drawn(int draw) throws NoSuchElementException {
        if (!draws.has(draw)) {
            throw new NoSuchElementException("no such draw");
        }
        return draws.paperOf[draw];
    }

    public int waits() {
        int settled = draws.settled(papers);
        return settled < draws.size ? settled : NONE;
    }

    public int pulled(int box) throws NoSuchElementException {
        if (box != NONE && !hasBox(box)) {
            throw new NoSuchElementException("no such box");
        }
        int unlike = 0;
        for (int p = 0; p < papers.size; p++) {
            if (papers.wasDrawn[p] && (box == NONE || papers.boxOf[p] == box)) {
                unlike++;
            }
        }
        return unlike;
    }

    public boolean read(int paper, int hand, int word) throws NoSuchElementException {
        if (!papers.has(paper)) {
            throw new NoSuchElementException("no such paper");
        }
        if (hand < 0 || hand >= HANDS) {
            throw new NoSuchElementException("no such hand");
        }
        if (!isSealed || papers.isLost[paper] || papers.isReadBy(paper, hand) || !isPossible(word)) {
            return false;
        }
        papers.keepHandWord(paper, hand, word);
        return true;
    }

    public int reading(int paper, int race) throws NoSuchElementException {
        if (!papers.has(paper)) {
            throw new NoSuchElementException("no such paper");
        }
        if (!hasRace(race)) {
            throw new NoSuchElementException("no such race");
        }
        return papers.handsMark(paper, race);
    }

    public int risk(int race) throws NoSuchElementException {
        if (!hasRace(race)) {
            throw new NoSuchElementException("no such race");
        }
        if (!hasRisk(race)) {
            return NONE;
        }
        walk.follow(race, races[race], papers, draws);
        return walk.riskReached;
    }

    public int taken(int race) throws NoSuchElementException {
        if (!hasRace(race)) {
            throw new NoSuchElementException("no such race");
        }
        if (!hasRisk(race)) {
            return 0;
        }
        walk.follow(race, races[race], papers, draws);
        return walk.drawsTaken;
    }

    public int taint(int race, int draw) throws NoSuchElementException {
        if (!hasRace(race)) {
            throw new NoSuchElementException("no such race");
        }
        if (!draws.has(draw)) {
            throw new NoSuchElementException("no such draw");
        }
        if (!hasRisk(race) || draw >= draws.settled(papers)) {
            return NOT_TAKEN;
        }
        int paper = draws.paperOf[draw];
        walk.weigh(paper, race, races[race], papers);
        return walk.worstGap[paper];
    }

    public int need(int race, int limit) throws NoSuchElementException, IllegalArgumentException {
        if (!hasRace(race)) {
            throw new NoSuchElementException("no such race");
        }
        if (limit < 0 || limit > FULL_RISK) {
            throw new IllegalArgumentException("a limit is 0 to 1,000,000,000");
        }
        if (!hasRisk(race)) {
            return NONE;
        }
        walk.follow(race, races[race], papers, draws);
        return races[race].cleanDrawsUntil(limit, walk.riskReached);
    }

    public int count(int what) throws NoSuchElementException {
        switch (what) {
            case 0:
                return raceCount;
            case 1:
                return boxCount;
            case 2:
                return papers.size;
            case 3:
                return papers.lostOnes();
            case 4:
                return draws.size;
            case 5:
                return papers.readOnes();
            case 6:
                return isSealed ? 1 : 0;
            default:
                throw new NoSuchElementException("no such count");
        }
    }

    private boolean hasRace(int race) {
        return race >= 0 && race < raceCount;
    }

    private boolean hasBox(int box) {
        return box >= 0 && box < boxCount;
    }

    private boolean canTally(int race, int candidate, int what) {
        return hasRace(race) && races[race].hasCandidate(candidate) && (what == BY_WORD || what == BY_HANDS);
    }

    private boolean hasRisk(int race) {
        return isSealed && races[race].margin > 0;
    }

    private boolean isPossible(int word) {
        for (int r = 0; r < raceCount; r++) {
            if (!races[r].allows(markOf(word, r))) {
                return false;
            }
        }
        return true;
    }

    private Tally tallyOf(int race, int what) {
        if (what == BY_WORD) {
            return races[race].wordTally;
        }
        handTally.clear();
        for (int p = 0; p < papers.size; p++) {
            handTally.add(papers.wholeMark(p, race));
        }
        return handTally;
    }

    private static int markOf(int word, int race) {
        return (word >>> (BITS_A_RACE * race)) & (MARKS - 1);
    }

    /** On how many papers each mark stands: blank, a candidate, or that the race isn't on it. */
    private static final class Tally {
        private final int[] papersOf = new int[MARKS];

        void clear() {
            Arrays.fill(papersOf, 0);
        }

        void add(int mark) {
            papersOf[mark]++;
        }

        int papersWith(int mark) {
            return papersOf[mark];
        }
    }

    /** A race; what follows from the machines' words is kept up as papers come. */
    private static final class Race {
        private final Tally wordTally = new Tally();
        private final boolean[] winsByWord = new boolean[MARKS];
        // Each winner over each loser, in the order in which like taints are told apart.
        private final int[] pairWinner = new int[MOST_PAIRS];
        private final int[] pairLoser = new int[MOST_PAIRS];
        private final int[] pairMargin = new int[MOST_PAIRS];
        private int pairs = 0;
        private int candidates = 0;
        private int seats = 0;
        private int size = 0;
        private int margin = 0;

        void open(int howManyStand, int howManyWin) {
            candidates = howManyStand;
            seats = howManyWin;
            pairUp();
        }

        void addWord(int mark) {
            wordTally.add(mark);
            if (mark != NOT_ON_IT) {
                size++;
            }
            pairUp();
        }

        boolean hasCandidate(int candidate) {
            return candidate >= 1 && candidate <= candidates;
        }

        boolean allows(int mark) {
            return mark == NOT_ON_IT || mark <= candidates;
        }

        boolean isWinner(int candidate, Tally tally) {
            int own = tally.papersWith(candidate);
            int ahead = 0;
            for (int other = 1; other <= candidates; other++) {
                int theirs = tally.papersWith(other);
                if (theirs > own || (theirs == own && other < candidate)) {
                    ahead++;
                }
            }
            return ahead < seats;
        }

        private void pairUp() {
            for (int c = 1; c <= candidates; c++) {
                winsByWord[c] = isWinner(c, wordTally);
            }
            pairs = 0;
            for (int w = 1; w <= candidates; w++) {
                if (winsByWord[w]) {
                    pairWithLosers(w);
                }
            }
            margin = pairs == 0 ? 0 : pairMargin[0];
            for (int i = 1; i < pairs; i++) {
                margin = Math.min(margin, pairMargin[i]);
            }
        }

        private void pairWithLosers(int winner) {
            for (int l = 1; l <= candidates && pairs < MOST_PAIRS; l++) {
                if (!winsByWord[l]) {
                    pairWinner[pairs] = winner;
                    pairLoser[pairs] = l;
                    pairMargin[pairs] = wordTally.papersWith(winner) - wordTally.papersWith(l);
                    pairs++;
                }
            }
        }

        int carryOn(int risk, int gap, int gapMargin) {
            long above = risk * (WHOLE_WEIGHT * size - MARGIN_WEIGHT * margin) * WHOLE_WEIGHT * gapMargin;
            long below = WHOLE_WEIGHT * size * (WHOLE_WEIGHT * gapMargin - MARGIN_WEIGHT * gap * margin);
            if (below <= 0) {
                return FULL_RISK;
            }
            return (int) Math.min((above + below - 1) / below, (long) FULL_RISK);
        }

        int cleanDrawsUntil(int limit, int riskNow) {
            int risk = riskNow;
            for (int more = 0; more <= MOST_NEED; more++) {
                if (risk <= limit) {
                    return more;
                }
                int next = carryOn(risk, 0, margin);
                // Being cut up, a small risk stays where it is for ever.
                if (next == risk) {
                    return NONE;
                }
                risk = next;
            }
            return NONE;
        }
    }

    /** The papers, the machines' word of each, and the words that hands read on it. */
    private static final class Papers {
        private final int[] boxOf = new int[MOST_PAPERS];
        private final int[] wordOf = new int[MOST_PAPERS];
        private final boolean[] isLost = new boolean[MOST_PAPERS];
        private final boolean[] wasDrawn = new boolean[MOST_PAPERS];
        // Bit h tells that hand h read the paper.
        private final int[] handsOf = new int[MOST_PAPERS];
        private final int[] handWords = new int[MOST_PAPERS * HANDS];
        private int size = 0;

        boolean has(int paper) {
            return paper >= 0 && paper < size;
        }

        int add(int box, int word) {
            boxOf[size] = box;
            wordOf[size] = word;
            size++;
            return size - 1;
        }

        void keepHandWord(int paper, int hand, int word) {
            handWords[paper * HANDS + hand] = word;
            handsOf[paper] |= 1 << hand;
        }

        boolean isReadBy(int paper, int hand) {
            return (handsOf[paper] & (1 << hand)) != 0;
        }

        boolean isReadByHand(int paper) {
            return handsOf[paper] != 0;
        }

        boolean isSettled(int paper) {
            return isLost[paper] || isReadByHand(paper);
        }

        int wordMark(int paper, int race) {
            return markOf(wordOf[paper], race);
        }

        int handsMark(int paper, int race) {
            int first = handMark(paper, 0, race);
            int second = handMark(paper, 1, race);
            int third = handMark(paper, 2, race);
            if (first != NONE && (first == second || first == third)) {
                return first;
            }
            if (second != NONE && second == third) {
                return second;
            }
            if (Integer.bitCount(handsOf[paper]) > 1) {
                return BLANK;
            }
            // At most one of them is a mark, and every mark is above NONE.
            return Math.max(first, Math.max(second, third));
        }

        private int handMark(int paper, int hand, int race) {
            return isReadBy(paper, hand) ? markOf(handWords[paper * HANDS + hand], race) : NONE;
        }

        int wholeMark(int paper, int race) {
            return isReadByHand(paper) ? handsMark(paper, race) : wordMark(paper, race);
        }

        int lostOnes() {
            int ones = 0;
            for (int p = 0; p < size; p++) {
                if (isLost[p]) {
                    ones++;
                }
            }
            return ones;
        }

        int readOnes() {
            int ones = 0;
            for (int p = 0; p < size; p++) {
                if (isReadByHand(p)) {
                    ones++;
                }
            }
            return ones;
        }
    }

    /** The draws, thrown from a seed that anyone can throw again. */
    private static final class Draws {
        private static final long FACTOR = 6364136223846793005L;
        private static final long STEP = 1442695040888963407L;
        private static final int BITS_BELOW_HIGHEST_31 = 33;

        private final int[] paperOf = new int[MOST_DRAWS];
        private int size = 0;
        private long dice = 0;

        void begin(long seed) {
            dice = seed;
        }

        boolean has(int draw) {
            return draw >= 0 && draw < size;
        }

        int addOne(int howManyPapers) {
            if (howManyPapers <= 0 || size >= MOST_DRAWS) {
                return 0;
            }
            dice = dice * FACTOR + STEP;
            int paper = (int) ((dice >>> BITS_BELOW_HIGHEST_31) % howManyPapers);
            paperOf[size] = paper;
            size++;
            return paper;
        }

        /** How many draws, from the first on, have papers that are read or lost. */
        int settled(Papers papers) {
            for (int d = 0; d < size; d++) {
                if (!papers.isSettled(paperOf[d])) {
                    return d;
                }
            }
            return size;
        }
    }

    /** A walk along the draws for one race; its rows are used again by each walk. */
    private static final class Walk {
        // X and m of a paper's taint: the same at each of its draws, so told once a paper.
        private final int[] worstGap = new int[MOST_PAPERS];
        private final int[] worstMargin = new int[MOST_PAPERS];
        private int riskReached = FULL_RISK;
        private int drawsTaken = 0;

        void follow(int number, Race race, Papers papers, Draws draws) {
            for (int p = 0; p < papers.size; p++) {
                weigh(p, number, race, papers);
            }
            riskReached = FULL_RISK;
            drawsTaken = 0;
            int settled = draws.settled(papers);
            for (int d = 0; d < settled; d++) {
                int paper = draws.paperOf[d];
                if (worstGap[paper] != NOT_TAKEN) {
                    riskReached = race.carryOn(riskReached, worstGap[paper], worstMargin[paper]);
                    drawsTaken++;
                }
            }
        }

        void weigh(int paper, int number, Race race, Papers papers) {
            int word = papers.wordMark(paper, number);
            int hands = papers.handsMark(paper, number);
            boolean lost = papers.isLost[paper];
            worstGap[paper] = NOT_TAKEN;
            worstMargin[paper] = 1;
            if (!isTaken(word, hands, lost)) {
                return;
            }
            for (int i = 0; i < race.pairs; i++) {
                int margin = race.pairMargin[i];
                int byWord = lead(word, race.pairWinner[i], race.pairLoser[i]);
                int gap = lost ? byWord + 1 : byWord - lead(hands, race.pairWinner[i], race.pairLoser[i]);
                // X / m compared crosswise, as every margin is above 0 where there is a risk.
                if (i == 0 || gap * worstMargin[paper] > worstGap[paper] * margin) {
                    worstGap[paper] = gap;
                    worstMargin[paper] = margin;
                }
            }
        }

        private static boolean isTaken(int word, int hands, boolean lost) {
            if (lost) {
                return word != NOT_ON_IT;
            }
            if (hands == NONE) {
                return false;
            }
            return word != NOT_ON_IT || hands != NOT_ON_IT;
        }

        private static int lead(int mark, int winner, int loser) {
            if (mark == winner) {
                return 1;
            }
            return mark == loser ? -1 : 0;
        }
    }
}
