/** Promises 16 to 18: risk, taken, taint. */
public final class RiskTest {
    private static final Due DUE = new Due();
    private static final int FULL = Risks.FULL;
    private static final int NOT_TAKEN = -10;
    private static final int BLANK = 0;
    private static final int NOT_ON_IT = 7;

    public static void main(String[] args) {
        riskAheadOfAllDraws();
        riskGoesOnDrawByDraw();
        riskAsFarAsReadOrLost();
        riskFollowsFurtherHands();
        xOfWordAndReading();
        xOfLostPapers();
        xOfSeveralLosersOrWinners();
        taintIsTheGreatestQuotient();
        taintOfLikeOnes();
        taintOfTheLastPair();
        riskByMarginOfRaceAndOfPair();
        riskIsCutUp();
        riskIsAtMostFull();
        riskIsNeverNone();
        riskOfLargestNumbers();
        drawsThatAreNotTaken();
        drawsOfLostPapersThatAreNotTaken();
        hasItByTheReadingAlone();
        promise16MarginIsNone();
        promise16NotSealed();
        promise17Taken();
        promise17NoneWhereRiskIsNone();
        promise18NotTakenAsYet();
        promise18RiskIsNone();
        promise18NoSuchDraw();
        DUE.end();
    }

    private static void riskAheadOfAllDraws() {
        DUE.sentence("Terms", "RISK of a RACE, in billionths: 1,000,000,000 ahead of all DRAWS");
        SureCount x = Offices.sixToFour();
        DUE.is(FULL, "no draws: risk(0)", () -> x.risk(0));
        x.read(8, 0, 1);
        x.lose(1, true);
        DUE.is(FULL, "papers read and lost, no draws: risk(0)", () -> x.risk(0));
        x.draw(0);
        DUE.is(FULL, "draw(0): risk(0)", () -> x.risk(0));
        x.lose(1, false);
        x.draw(1);
        DUE.is(476190477, "then drawn: risk(0)", () -> x.risk(0));
    }

    /** The draws are of 8, 1, 3, 3; X of 2 makes RISK ten times what it was, but at most 1,000,000,000. */
    private static void riskGoesOnDrawByDraw() {
        DUE.sentence("Terms", "it goes on DRAW by DRAW (from the first on");
        SureCount first = Offices.sixToFour();
        first.draw(4);
        first.read(8, 0, 1);
        first.read(1, 0, 2);
        first.read(3, 0, 1);
        DUE.is(826446282, "X -2, 2, 0, 0: risk(0)", () -> first.risk(0));
        SureCount last = Offices.sixToFour();
        last.draw(4);
        last.read(8, 0, 1);
        last.read(1, 0, 1);
        last.read(3, 0, 2);
        DUE.is(FULL, "X -2, 0, 2, 2: risk(0)", () -> last.risk(0));
        SureCount slight = Offices.sixToFour();
        slight.draw(4);
        slight.read(8, 0, 1);
        slight.read(1, 0, BLANK);
        slight.read(3, 0, 1);
        DUE.is(655909749, "X -2, 1, 0, 0: risk(0)", () -> slight.risk(0));
    }

    private static void riskAsFarAsReadOrLost() {
        DUE.sentence("Terms", "as far as their PAPERS are READ or LOST");
        SureCount x = Offices.sixToFour();
        x.draw(4);
        x.read(3, 0, 1);
        x.lose(1, true);
        DUE.is(FULL, "draw 0 waits: risk(0)", () -> x.risk(0));
        x.lose(1, false);
        x.read(8, 0, 1);
        DUE.is(476190477, "draw 1 waits: risk(0)", () -> x.risk(0));
        x.read(1, 0, 1);
        DUE.is(357768955, "none waits: risk(0)", () -> x.risk(0));
        SureCount lost = Offices.sixToFour();
        lost.draw(4);
        lost.read(8, 0, 2);
        lost.read(1, 0, 1);
        DUE.is(826446282, "draw 2 waits: risk(0)", () -> lost.risk(0));
        lost.lose(3, true);
        DUE.is(FULL, "its paper is lost: risk(0)", () -> lost.risk(0));
        lost.lose(3, false);
        DUE.is(826446282, "found again it waits: risk(0)", () -> lost.risk(0));
    }

    private static void riskFollowsFurtherHands() {
        DUE.sentence("Terms", "less the same of THE READING");
        SureCount x = Offices.sixToFour();
        x.draw(1);
        x.read(8, 0, 1);
        DUE.is(476190477, "one hand: risk(0)", () -> x.risk(0));
        x.read(8, 1, 2);
        DUE.is(625000000, "two that disagree: risk(0)", () -> x.risk(0));
        x.read(8, 2, 2);
        DUE.is(909090910, "two of three agree: risk(0)", () -> x.risk(0));
        DUE.is(0, "taint(0, 0)", () -> x.taint(0, 0));
    }

    /** What a mark gives the winner 1 less what it gives the loser 2. */
    private static int lead(int mark) {
        return mark == 1 ? 1 : mark == 2 ? -1 : 0;
    }

    /** Five papers for 1 and two for 2, all read as their words, and paper 0 with a word of its own. */
    private static SureCount besidePaperNone(int word) {
        SureCount x = Offices.withWords(2, 1, word, 1, 1, 1, 1, 1, 2, 2);
        x.seal(Offices.seedThatDraws(0));
        x.draw(20);
        for (int p = 1; p <= 7; p++) {
            x.read(p, 0, p <= 5 ? 1 : 2);
        }
        return x;
    }

    private static void xOfWordAndReading() {
        DUE.sentence("Terms", "X is what THE WORD gives w less what it gives l (each 1 or 0), less the same of");
        int[] marks = {BLANK, 1, 2, NOT_ON_IT};
        for (int word : marks) {
            for (int reading : marks) {
                SureCount x = besidePaperNone(word);
                x.read(0, 0, reading);
                int size = word == NOT_ON_IT ? 7 : 8;
                int margin = 3 + lead(word);
                int gap = lead(word) - lead(reading);
                String what = word + " read as " + reading + ": ";
                if (word != NOT_ON_IT || reading != NOT_ON_IT) {
                    DUE.is(gap, what + "taint(0, 0)", () -> x.taint(0, 0));
                    DUE.is(Risks.behindAll(x, size, margin, 0, gap, margin), what + "risk(0)", () -> x.risk(0));
                }
            }
        }
    }

    private static void xOfLostPapers() {
        DUE.sentence("Terms", "of a LOST PAPER what THE WORD gives w less what it gives l, and 1");
        int[] marks = {BLANK, 1, 2};
        int[] gaps = {1, 2, 0};
        for (int i = 0; i < marks.length; i++) {
            SureCount x = besidePaperNone(marks[i]);
            x.lose(0, true);
            int margin = 3 + lead(marks[i]);
            int gap = gaps[i];
            DUE.is(gap, "lost, its word " + marks[i] + ": taint(0, 0)", () -> x.taint(0, 0));
            DUE.is(Risks.behindAll(x, 8, margin, 0, gap, margin), "lost, its word " + marks[i] + ": risk(0)",
                    () -> x.risk(0));
        }
    }

    /** X at the first draw of paper 0, whose word and reading are told; the votes are those of the other papers. */
    private static int taintOf(int word, int reading, int candidates, int winners, int... votes) {
        SureCount x = ofPaperNone(word, candidates, winners, votes);
        x.read(0, 0, reading);
        return x.taint(0, 0);
    }

    private static int taintOfLost(int word, int candidates, int winners, int... votes) {
        SureCount x = ofPaperNone(word, candidates, winners, votes);
        x.lose(0, true);
        return x.taint(0, 0);
    }

    private static SureCount ofPaperNone(int word, int candidates, int winners, int... votes) {
        SureCount x = new SureCount();
        x.race(candidates, winners);
        x.box();
        x.paper(0, word);
        for (int other : Offices.words(votes)) {
            x.paper(0, other);
        }
        x.seal(Offices.seedThatDraws(0));
        x.draw(1);
        return x;
    }

    private static void xOfSeveralLosersOrWinners() {
        DUE.sentence("Terms", "Of a DRAW and a WINNER w over a LOSER l, with the MARGIN m of them");
        DUE.is(1, "lost, for a loser: the other loser", () -> taintOfLost(2, 3, 1, 6, 1, 2));
        DUE.is(2, "lost, for the winner", () -> taintOfLost(1, 3, 1, 5, 2, 2));
        DUE.is(0, "lost, for the only loser", () -> taintOfLost(3, 3, 2, 5, 5, 0));
        DUE.is(2, "lost, for the lesser winner", () -> taintOfLost(2, 3, 2, 6, 3, 1));
        DUE.is(1, "one loser read as another", () -> taintOf(2, 3, 3, 1, 6, 1, 2));
        DUE.is(1, "one winner read as another", () -> taintOf(1, 2, 3, 2, 5, 5, 1));
        DUE.is(-1, "a loser read as one of two winners", () -> taintOf(3, 1, 3, 2, 5, 5, 0));
        DUE.is(0, "like word and reading", () -> taintOf(4, 4, 6, 3, 9, 8, 7, 2, 2, 2));
    }

    private static void taintIsTheGreatestQuotient() {
        DUE.sentence("Terms", "TAINT of the DRAW: of all such X / m the greatest; that X and that m");
        DUE.is(1, "1 / 1 is above 2 / 4", () -> taintOf(1, 3, 3, 1, 5, 5, 2));
        DUE.is(2, "2 / 5 is above 1 / 4", () -> taintOf(1, 3, 3, 1, 6, 3, 2));
        DUE.is(2, "2 / 3 is above 1 / 2", () -> taintOf(1, 3, 3, 1, 5, 4, 3));
        DUE.is(-2, "-2 / 4 is above -1 / 1", () -> taintOf(3, 1, 3, 1, 6, 5, 1));
        DUE.is(-1, "-1 / 3 is above -2 / 3", () -> taintOf(3, 1, 3, 1, 6, 3, 2));
        DUE.is(0, "0 is above -1", () -> taintOf(3, BLANK, 3, 1, 6, 3, 2));
    }

    private static void taintOfLikeOnes() {
        DUE.sentence("Terms", "of like ones the first w, then the first l, WINNERS and LOSERS by their numbers");
        DUE.is(1, "6, 4, 2 votes, 1 read as 3: 1 / 2 over 2, 2 / 4 over 3", () -> taintOf(1, 3, 3, 1, 5, 4, 2));
        DUE.is(2, "6, 2, 4 votes, 1 read as 2: 2 / 4 over 2, 1 / 2 over 3", () -> taintOf(1, 2, 3, 1, 5, 2, 4));
        DUE.is(2, "6, 4, 2 votes, 1 read as 3: 2 / 4 of 1, 1 / 2 of 2", () -> taintOf(1, 3, 3, 2, 5, 4, 2));
        DUE.is(1, "4, 6, 2 votes, 2 read as 3: 1 / 2 of 1, 2 / 4 of 2", () -> taintOf(2, 3, 3, 2, 4, 5, 2));
        DUE.is(-1, "5, 3, 1 votes, 3 read as 1: -1 / 2 over 2, -2 / 4 over 3", () -> taintOf(3, 1, 3, 1, 5, 3, 0));
        DUE.is(-2, "5, 1, 3 votes, 2 read as 1: -2 / 4 over 2, -1 / 2 over 3", () -> taintOf(2, 1, 3, 1, 5, 0, 3));
    }

    private static void taintOfTheLastPair() {
        DUE.sentence("Terms", "with the MARGIN m of them");
        DUE.is(2, "3 read as 6, the last winner and the last loser", () -> taintOf(3, 6, 6, 3, 9, 8, 4, 1, 2, 4));
        DUE.is(2, "5 read as 6, five winners", () -> taintOf(5, 6, 6, 5, 9, 9, 9, 9, 3, 2));
        DUE.is(2, "1 read as 6, five losers", () -> taintOf(1, 6, 6, 1, 8, 1, 2, 3, 4, 5));
    }

    /** 6, 5 and 2 votes and a blank paper: V is 1, the MARGIN of 1 over 3 is 4. */
    private static void riskByMarginOfRaceAndOfPair() {
        DUE.sentence("Terms", "RISK * (22 N - 10 V) * 22 m / (22 N * (22 m - 10 X V))");
        int[] words = {BLANK, 1, 1, 1, 1, 1, 1, 2, 2, 2, 2, 2, 3, 3};
        int[] tainted = {0, 0, 13, 13, 1};
        int[] readings = {3, 1, 1, BLANK, 3};
        int[] gaps = {1, -1, -2, 0, 1};
        int[] margins = {4, 4, 4, 1, 1};
        for (int i = 0; i < tainted.length; i++) {
            SureCount x = Offices.withWords(3, 1, words);
            x.seal(21);
            x.draw(60);
            for (int p = 0; p < words.length; p++) {
                x.read(p, 1, p == tainted[i] ? readings[i] : words[p]);
            }
            String what = words[tainted[i]] + " read as " + readings[i] + ": ";
            int gap = gaps[i];
            int draw = Offices.firstDrawOf(x, tainted[i]);
            DUE.is(gap, what + "taint(0, " + draw + ")", () -> x.taint(0, draw));
            DUE.is(Risks.behindAll(x, 14, 1, tainted[i], gap, margins[i]), what + "risk(0)", () -> x.risk(0));
        }
    }

    private static void riskIsCutUp() {
        DUE.sentence("Terms", "cut up to a whole number");
        int[] readings = {2, BLANK, 1};
        // 909,090,909 and 1 / 11; 625,000,000 and none; 476,190,476 and 4 / 21.
        int[] risks = {909090910, 625000000, 476190477};
        for (int i = 0; i < readings.length; i++) {
            SureCount x = Offices.sixToFour();
            x.draw(1);
            x.read(8, 0, readings[i]);
            DUE.is(risks[i], "2 read as " + readings[i] + ": risk(0)", () -> x.risk(0));
        }
        SureCount again = Offices.sixToFour();
        again.draw(2);
        again.read(8, 0, BLANK);
        again.read(1, 0, 1);
        // 568,181,818 and 2 / 11.
        DUE.is(568181819, "one more: risk(0)", () -> again.risk(0));
    }

    private static void riskIsAtMostFull() {
        DUE.sentence("Terms", "but at most 1,000,000,000");
        SureCount first = Offices.sixToFour();
        first.draw(2);
        first.read(8, 0, 2);
        first.read(1, 0, 2);
        DUE.is(FULL, "ten times 909,090,910: risk(0)", () -> first.risk(0));
        SureCount slight = Offices.sixToFour();
        slight.draw(2);
        slight.read(8, 0, BLANK);
        slight.read(1, 0, BLANK);
        DUE.is(FULL, "5 / 3 of 625,000,000: risk(0)", () -> slight.risk(0));
        SureCount below = Offices.sixToFour();
        below.draw(2);
        below.read(8, 0, 1);
        below.read(1, 0, BLANK);
        DUE.is(793650795, "5 / 3 of 476,190,477: risk(0)", () -> below.risk(0));
        // Where all papers are for one, an X of 1 leaves RISK as it is.
        SureCount all = Offices.withWords(2, 1, 1, 1, 1);
        all.seal(Offices.seedThatDraws(0));
        all.draw(1);
        all.read(0, 0, BLANK);
        DUE.is(FULL, "just 1,000,000,000: risk(0)", () -> all.risk(0));
        DUE.is(1, "just 1,000,000,000: taint(0, 0)", () -> all.taint(0, 0));
        all.draw(20);
        all.read(1, 0, 1);
        all.read(2, 0, 1);
        DUE.is(Risks.behindAll(all, 3, 3, 0, 1, 3), "20 more: risk(0)", () -> all.risk(0));
    }

    /** An X of -2 makes less than half of RISK: 1, cut up, stays 1. */
    private static void riskIsNeverNone() {
        DUE.sentence("Terms", "cut up to a whole number");
        SureCount x = Offices.withWords(2, 1, 1, 1, 2);
        x.seal(4);
        for (int i = 0; i < 20; i++) {
            x.draw(100);
        }
        x.read(0, 0, 1);
        x.read(1, 0, 1);
        x.read(2, 0, 1);
        DUE.is(1, "2,000 draws: risk(0)", () -> x.risk(0));
        DUE.is(2000, "2,000 draws: taken(0)", () -> x.taken(0));
        SureCount clean = Offices.sixToFour();
        for (int i = 0; i < 20; i++) {
            clean.draw(100);
        }
        for (int p = 0; p < 10; p++) {
            clean.read(p, 0, p < 6 ? 1 : 2);
        }
        DUE.is(10, "2,000 draws without a taint: risk(0)", () -> clean.risk(0));
        DUE.is(2000, "2,000 draws without a taint: taken(0)", () -> clean.taken(0));
        DUE.is(0, "the last of them: taint(0, 1999)", () -> clean.taint(0, 1999));
        DUE.noSuchElement("taint(0, 2000)", () -> clean.taint(0, 2000));
    }

    private static void riskOfLargestNumbers() {
        DUE.sentence("Terms", "(22 N - 10 V) * 22 m / (22 N * (22 m - 10 X V))");
        largestNumbers(new int[] {300, 0}, 300, 1);
        largestNumbers(new int[] {300, 0}, 300, BLANK);
        largestNumbers(new int[] {300, 0}, 300, 2);
        largestNumbers(new int[] {151, 149}, 2, 1);
        largestNumbers(new int[] {299, 1}, 298, 1);
    }

    /** 300 papers, the first 40 draws of which are read as their words, but the first one by this mark. */
    private static void largestNumbers(int[] votes, int margin, int mark) {
        int[] words = Offices.words(votes);
        SureCount x = Offices.withWords(2, 1, words);
        x.seal(Offices.seedThatDraws(0));
        x.draw(40);
        int risk = FULL;
        for (int d = 0; d < 40; d++) {
            int paper = x.drawn(d);
            int reading = paper == 0 ? mark : words[paper];
            x.read(paper, 0, reading);
            risk = Risks.carried(risk, 300, margin, lead(words[paper]) - lead(reading), margin);
        }
        DUE.is(risk, "300 papers, margin " + margin + ", one read as " + mark + ": risk(0)", () -> x.risk(0));
        DUE.is(40, "taken(0)", () -> x.taken(0));
    }

    /** Draw 0 is of paper 8, which by the word doesn't have race 1; of race 1 N is 9, V and m are 5. */
    private static SureCount offTheEighth() {
        SureCount x = new SureCount();
        x.race(2, 1);
        x.race(2, 1);
        x.box();
        int[] second = {1, 1, 1, 1, 1, 1, 1, 2, 7, 2};
        for (int p = 0; p < 10; p++) {
            x.paper(0, (p < 6 ? 1 : 2) + 8 * second[p]);
        }
        x.seal(7);
        x.draw(2);
        return x;
    }

    private static void drawsThatAreNotTaken() {
        DUE.sentence("Terms", "a DRAW of a PAPER that doesn't have the RACE, by THE WORD nor by THE READING, isn't");
        SureCount x = offTheEighth();
        x.read(8, 0, 2 + 8 * NOT_ON_IT);
        DUE.is(0, "on it by neither: taken(1)", () -> x.taken(1));
        DUE.is(NOT_TAKEN, "on it by neither: taint(1, 0)", () -> x.taint(1, 0));
        DUE.is(FULL, "on it by neither: risk(1)", () -> x.risk(1));
        DUE.is(1, "the other race: taken(0)", () -> x.taken(0));
        x.read(1, 0, 1 + 8 * NOT_ON_IT);
        DUE.is(1, "on it by the word alone: taken(1)", () -> x.taken(1));
        DUE.is(1, "on it by the word alone: taint(1, 1)", () -> x.taint(1, 1));
        x.read(8, 1, 2 + 8);
        DUE.is(2, "hands disagree, which is blank: taken(1)", () -> x.taken(1));
        DUE.is(0, "hands disagree, which is blank: taint(1, 0)", () -> x.taint(1, 0));
    }

    private static void drawsOfLostPapersThatAreNotTaken() {
        DUE.sentence("Terms", "isn't taken for it (of a LOST one by THE WORD)");
        SureCount x = offTheEighth();
        x.lose(8, true);
        DUE.is(0, "taken(1)", () -> x.taken(1));
        DUE.is(NOT_TAKEN, "taint(1, 0)", () -> x.taint(1, 0));
        DUE.is(FULL, "risk(1)", () -> x.risk(1));
        DUE.is(1, "the other race: taken(0)", () -> x.taken(0));
        x.lose(1, true);
        DUE.is(1, "a lost one that has it: taken(1)", () -> x.taken(1));
        DUE.is(2, "a lost one that has it: taint(1, 1)", () -> x.taint(1, 1));
    }

    private static void hasItByTheReadingAlone() {
        DUE.sentence("Terms", "(A PAPER that has it by THE READING alone: THE WORD gives nothing to all.)");
        int[] marks = {BLANK, 1, 2};
        int[] gaps = {0, -1, 1};
        for (int i = 0; i < marks.length; i++) {
            SureCount x = offTheEighth();
            x.read(8, 0, 2 + 8 * marks[i]);
            String what = "read as " + marks[i] + ": ";
            int gap = gaps[i];
            DUE.is(1, what + "taken(1)", () -> x.taken(1));
            DUE.is(gap, what + "taint(1, 0)", () -> x.taint(1, 0));
            DUE.is(Risks.carried(FULL, 9, 5, gap, 5), what + "risk(1)", () -> x.risk(1));
        }
    }

    private static void promise16MarginIsNone() {
        DUE.sentence("Promise 16", "NONE: its MARGIN is 0");
        SureCount like = Offices.sealedAndDrawn(Offices.withWords(2, 1, 1, 2), 5);
        DUE.is(-1, "like votes: risk(0)", () -> like.risk(0));
        like.read(0, 0, 1);
        like.read(1, 0, BLANK);
        DUE.is(-1, "otherwise by hands: risk(0)", () -> like.risk(0));
        SureCount onNone = Offices.sealedAndDrawn(Offices.withWords(2, 1, 7, 7), 5);
        DUE.is(-1, "on no paper: risk(0)", () -> onNone.risk(0));
        SureCount blank = Offices.sealedAndDrawn(Offices.withWords(6, 5, 0, 0), 5);
        DUE.is(-1, "all blank: risk(0)", () -> blank.risk(0));
        SureCount lastSeat = Offices.sealedAndDrawn(Offices.withWords(3, 2, 1, 1, 2, 3), 5);
        DUE.is(-1, "like votes for the last seat: risk(0)", () -> lastSeat.risk(0));
        SureCount one = Offices.sealedAndDrawn(Offices.withWords(2, 1, 2), 5);
        DUE.is(FULL, "a MARGIN of 1: risk(0)", () -> one.risk(0));
        SureCount winners = Offices.sealedAndDrawn(Offices.withWords(3, 2, 1, 2), 5);
        DUE.is(FULL, "like votes of winners: risk(0)", () -> winners.risk(0));
    }

    private static void promise16NotSealed() {
        DUE.sentence("Promise 16", "or it isn't SEALED");
        SureCount x = Offices.withWords(2, 1, 1, 1, 2);
        DUE.is(-1, "risk(0)", () -> x.risk(0));
        DUE.is(-1, "no papers: risk(0)", () -> Offices.withWords(2, 1).risk(0));
        DUE.noSuchElement("risk(1)", () -> x.risk(1));
        DUE.noSuchElement("risk(-1)", () -> x.risk(-1));
        x.seal(1);
        DUE.is(FULL, "sealed: risk(0)", () -> x.risk(0));
    }

    private static void promise17Taken() {
        DUE.sentence("Promise 17", "How many DRAWS were taken for a RACE");
        SureCount x = Offices.sixToFour();
        DUE.is(0, "no draws: taken(0)", () -> x.taken(0));
        x.draw(4);
        DUE.is(0, "none read: taken(0)", () -> x.taken(0));
        x.read(3, 0, 1);
        DUE.is(0, "draw 0 waits: taken(0)", () -> x.taken(0));
        x.lose(8, true);
        DUE.is(1, "a lost one: taken(0)", () -> x.taken(0));
        x.read(1, 0, NOT_ON_IT);
        DUE.is(4, "a paper drawn twice is taken twice: taken(0)", () -> x.taken(0));
        x.draw(0);
        DUE.is(4, "draw(0): taken(0)", () -> x.taken(0));
    }

    private static void promise17NoneWhereRiskIsNone() {
        DUE.sentence("Promise 17", "(0 where RISK is NONE)");
        DUE.is(0, "not sealed: taken(0)", () -> Offices.withWords(2, 1, 1).taken(0));
        SureCount x = Offices.sealedAndDrawn(Offices.withWords(2, 1, 1, 2), 5);
        x.read(0, 0, 1);
        x.read(1, 0, 2);
        DUE.is(0, "a MARGIN of 0: taken(0)", () -> x.taken(0));
    }

    private static void promise18NotTakenAsYet() {
        DUE.sentence("Promise 18", "NONE - 9: it isn't taken for it (as yet)");
        SureCount x = Offices.sixToFour();
        x.draw(4);
        DUE.is(NOT_TAKEN, "not read: taint(0, 0)", () -> x.taint(0, 0));
        x.read(1, 0, 1);
        x.lose(3, true);
        DUE.is(NOT_TAKEN, "read, behind one that waits: taint(0, 1)", () -> x.taint(0, 1));
        DUE.is(NOT_TAKEN, "lost, behind one that waits: taint(0, 3)", () -> x.taint(0, 3));
        x.read(8, 0, 2);
        DUE.is(0, "none waits: taint(0, 0)", () -> x.taint(0, 0));
        DUE.is(0, "none waits: taint(0, 1)", () -> x.taint(0, 1));
        DUE.is(2, "none waits: taint(0, 3)", () -> x.taint(0, 3));
        x.lose(3, false);
        DUE.is(NOT_TAKEN, "found again it waits: taint(0, 2)", () -> x.taint(0, 2));
        DUE.is(0, "ahead of it: taint(0, 1)", () -> x.taint(0, 1));
    }

    private static void promise18RiskIsNone() {
        DUE.sentence("Promise 18", "or RISK is NONE");
        SureCount x = Offices.sealedAndDrawn(Offices.withWords(2, 1, 1, 2), 5);
        DUE.is(NOT_TAKEN, "a MARGIN of 0, none read: taint(0, 0)", () -> x.taint(0, 0));
        x.read(0, 0, 1);
        x.read(1, 0, 2);
        DUE.is(NOT_TAKEN, "a MARGIN of 0: taint(0, 0)", () -> x.taint(0, 0));
        DUE.is(NOT_TAKEN, "a MARGIN of 0: taint(0, 99)", () -> x.taint(0, 99));
        DUE.noSuchElement("a MARGIN of 0: taint(0, 100)", () -> x.taint(0, 100));
    }

    private static void promise18NoSuchDraw() {
        DUE.sentence("Promise 18", "NoSuchElementException: also no such DRAW.");
        DUE.noSuchElement("no draws: taint(0, 0)", () -> Offices.sixToFour().taint(0, 0));
        DUE.noSuchElement("not sealed: taint(0, 0)", () -> Offices.unsealed().taint(0, 0));
        SureCount x = Offices.atWork();
        int[] others = {-1, 5, 2000, Integer.MIN_VALUE, Integer.MAX_VALUE};
        for (int draw : others) {
            DUE.noSuchElement("taint(0, " + draw + ")", () -> x.taint(0, draw));
            DUE.noSuchElement("taint(1, " + draw + ")", () -> x.taint(1, draw));
        }
        DUE.noSuchElement("taint(2, 0)", () -> x.taint(2, 0));
        DUE.noSuchElement("taint(-1, 0)", () -> x.taint(-1, 0));
    }
}
