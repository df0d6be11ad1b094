/** Promises 7 to 9: votes, wins, about. */
public final class TallyTest {
    private static final Due DUE = new Due();

    public static void main(String[] args) {
        promise7VotesByWord();
        promise7VotesCountedWhole();
        promise8Wins();
        promise8WinsByHands();
        promise9About();
        promise9Margin();
        DUE.end();
    }

    private static void promise7VotesByWord() {
        SureCount x = Offices.withWords(3, 1, 2, 2, 1, 0, 7, 2);
        DUE.is(1, "votes(0, 1, 0)", () -> x.votes(0, 1, 0));
        DUE.is(3, "votes(0, 2, 0)", () -> x.votes(0, 2, 0));
        DUE.is(0, "votes(0, 3, 0)", () -> x.votes(0, 3, 0));
        DUE.is(3, "votes(0, 2, 1) with none read", () -> x.votes(0, 2, 1));
        DUE.noSuchElement("votes(0, 0, 0)", () -> x.votes(0, 0, 0));
        DUE.noSuchElement("votes(0, 4, 0)", () -> x.votes(0, 4, 0));
        DUE.noSuchElement("votes(0, 7, 0)", () -> x.votes(0, 7, 0));
        DUE.noSuchElement("votes(0, -1, 0)", () -> x.votes(0, -1, 0));
        DUE.noSuchElement("votes(0, 8, 1)", () -> x.votes(0, 8, 1));
        DUE.noSuchElement("votes(0, 1, 2)", () -> x.votes(0, 1, 2));
        DUE.noSuchElement("votes(0, 1, -1)", () -> x.votes(0, 1, -1));
        DUE.noSuchElement("votes(1, 1, 0)", () -> x.votes(1, 1, 0));
        DUE.noSuchElement("votes(-1, 1, 0)", () -> x.votes(-1, 1, 0));
    }

    private static void promise7VotesCountedWhole() {
        SureCount x = Offices.withWords(3, 1, 1, 1, 1, 1, 2, 7);
        x.lose(3, true);
        x.seal(9);
        x.read(0, 0, 2);
        DUE.is(3, "one read otherwise", () -> x.votes(0, 1, 1));
        DUE.is(2, "what it was read as", () -> x.votes(0, 2, 1));
        x.read(0, 1, 3);
        DUE.is(1, "two hands disagree: blank", () -> x.votes(0, 2, 1));
        DUE.is(0, "two hands disagree: blank, not the second", () -> x.votes(0, 3, 1));
        x.read(0, 2, 3);
        DUE.is(1, "two of three agree", () -> x.votes(0, 3, 1));
        x.read(1, 0, 7);
        DUE.is(2, "read as not on it; the lost one by the word", () -> x.votes(0, 1, 1));
        x.read(5, 1, 2);
        DUE.is(2, "on it by the reading alone", () -> x.votes(0, 2, 1));
        DUE.is(4, "by the word as before", () -> x.votes(0, 1, 0));
        DUE.is(1, "by the word as before", () -> x.votes(0, 2, 0));
    }

    private static void promise8Wins() {
        SureCount x = Offices.withWords(4, 2, 3, 3, 1, 2, 4, 4);
        boolean[] due = {false, false, true, true};
        for (int c = 1; c <= 4; c++) {
            int asked = c;
            DUE.is(due[c - 1], "wins(0, " + c + ", 0)", () -> x.wins(0, asked, 0));
        }
        SureCount y = Offices.withWords(4, 2, 4, 4, 3, 2);
        boolean[] likeOnes = {false, true, false, true};
        for (int c = 1; c <= 4; c++) {
            int asked = c;
            DUE.is(likeOnes[c - 1], "of like ones the least: wins(0, " + c + ", 0)", () -> y.wins(0, asked, 0));
        }
        SureCount none = Offices.withWords(6, 5);
        DUE.is(true, "no votes: wins(0, 5, 0)", () -> none.wins(0, 5, 0));
        DUE.is(false, "no votes: wins(0, 6, 0)", () -> none.wins(0, 6, 0));
        DUE.noSuchElement("wins(0, 0, 0)", () -> x.wins(0, 0, 0));
        DUE.noSuchElement("wins(0, 5, 0)", () -> x.wins(0, 5, 0));
        DUE.noSuchElement("wins(0, 1, 2)", () -> x.wins(0, 1, 2));
        DUE.noSuchElement("wins(0, 1, -1)", () -> x.wins(0, 1, -1));
        DUE.noSuchElement("wins(1, 1, 0)", () -> x.wins(1, 1, 0));
        DUE.noSuchElement("wins(-1, 1, 1)", () -> x.wins(-1, 1, 1));
    }

    private static void promise8WinsByHands() {
        SureCount x = Offices.withWords(2, 1, 1, 1, 2);
        x.seal(1);
        x.read(0, 0, 0);
        DUE.is(true, "a like count: the least number", () -> x.wins(0, 1, 1));
        DUE.is(false, "a like count: not the other", () -> x.wins(0, 2, 1));
        x.read(1, 0, 2);
        DUE.is(false, "by hands 1 loses", () -> x.wins(0, 1, 1));
        DUE.is(true, "by hands 2 wins", () -> x.wins(0, 2, 1));
        DUE.is(true, "by the word 1 wins", () -> x.wins(0, 1, 0));
        DUE.is(false, "by the word 2 loses", () -> x.wins(0, 2, 0));
    }

    private static void promise9About() {
        SureCount x = Offices.withWords(5, 3, 1, 0, 7, 7, 2, 3);
        DUE.is(4, "N: blanks have the race, 7 hasn't", () -> x.about(0, 0));
        DUE.is(1, "MARGIN", () -> x.about(0, 1));
        DUE.is(5, "CANDIDATES", () -> x.about(0, 2));
        DUE.is(3, "how many win", () -> x.about(0, 3));
        DUE.noSuchElement("about(0, 4)", () -> x.about(0, 4));
        DUE.noSuchElement("about(0, -1)", () -> x.about(0, -1));
        DUE.noSuchElement("about(1, 0)", () -> x.about(1, 0));
        DUE.noSuchElement("about(-1, 0)", () -> x.about(-1, 0));
        x.seal(1);
        x.read(0, 0, 7);
        x.read(2, 0, 1);
        DUE.is(4, "N is by the word", () -> x.about(0, 0));
        DUE.is(1, "MARGIN is by the word", () -> x.about(0, 1));
    }

    private static void promise9Margin() {
        SureCount none = Offices.withWords(3, 1);
        DUE.is(0, "no papers: N", () -> none.about(0, 0));
        DUE.is(0, "no papers: MARGIN", () -> none.about(0, 1));
        SureCount like = Offices.withWords(3, 1, 2, 3);
        DUE.is(0, "like votes of a winner and a loser", () -> like.about(0, 1));
        SureCount x = Offices.withWords(4, 2, 1, 1, 1, 1, 1, 4, 4, 4, 2);
        DUE.is(2, "the last winner over the first loser", () -> x.about(0, 1));
        SureCount twin = Offices.withWords(3, 2, 1, 1, 2, 2, 3);
        DUE.is(1, "like winners leave a margin", () -> twin.about(0, 1));
    }
}
