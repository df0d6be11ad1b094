/** Promises 7 to 9: votes, wins, about. */
public final class TallyTest {
    private static final Due DUE = new Due();
    private static final int[] NO_RACE_OF_TWO = {-1, 2, 5, Integer.MIN_VALUE, Integer.MAX_VALUE};

    public static void main(String[] args) {
        votesByWord();
        votesCountedWhole();
        countedWholeIfNotRead();
        countedWholeOfLostOnes();
        promise7NoSuchRace();
        promise7NoSuchCandidate();
        promise7NoSuchWhat();
        winnersByWord();
        winnersOfLikeOnes();
        winnersByHands();
        promise8NoSuchRaceCandidateWhat();
        promise9N();
        marginIsTheLeast();
        marginOfAnEmptyOffice();
        promise9CandidatesAndWinners();
        promise9IsByTheWord();
        promise9AnotherWhat();
        DUE.end();
    }

    private static void votesByWord() {
        DUE.sentence("Terms", "VOTES of a CANDIDATE: how many WORDS name it.");
        SureCount x = Offices.withWords(3, 1, 2, 2, 1, 0, 7, 2);
        DUE.is(1, "votes(0, 1, 0)", () -> x.votes(0, 1, 0));
        DUE.is(3, "votes(0, 2, 0)", () -> x.votes(0, 2, 0));
        DUE.is(0, "votes(0, 3, 0)", () -> x.votes(0, 3, 0));
        SureCount none = Offices.withWords(3, 1);
        DUE.is(0, "no papers: votes(0, 1, 0)", () -> none.votes(0, 1, 0));
        DUE.is(0, "no papers: votes(0, 3, 1)", () -> none.votes(0, 3, 1));
    }

    private static void votesCountedWhole() {
        DUE.sentence("Terms", "for each PAPER THE READING");
        SureCount x = Offices.withWords(3, 1, 1, 1, 1, 1, 2, 7);
        x.seal(9);
        x.read(0, 0, 2);
        DUE.is(3, "one read otherwise: votes(0, 1, 1)", () -> x.votes(0, 1, 1));
        DUE.is(2, "what it was read as: votes(0, 2, 1)", () -> x.votes(0, 2, 1));
        x.read(0, 1, 3);
        DUE.is(1, "two hands disagree: votes(0, 2, 1)", () -> x.votes(0, 2, 1));
        DUE.is(0, "two hands disagree: votes(0, 3, 1)", () -> x.votes(0, 3, 1));
        DUE.is(3, "nor is it the word: votes(0, 1, 1)", () -> x.votes(0, 1, 1));
        x.read(0, 2, 3);
        DUE.is(1, "two of three agree: votes(0, 3, 1)", () -> x.votes(0, 3, 1));
        x.read(1, 0, 7);
        DUE.is(2, "read as not on it: votes(0, 1, 1)", () -> x.votes(0, 1, 1));
        x.read(2, 0, 0);
        DUE.is(1, "read as blank: votes(0, 1, 1)", () -> x.votes(0, 1, 1));
        x.read(5, 1, 2);
        DUE.is(2, "on it by the reading alone: votes(0, 2, 1)", () -> x.votes(0, 2, 1));
        DUE.is(4, "by the word as before: votes(0, 1, 0)", () -> x.votes(0, 1, 0));
        DUE.is(1, "by the word as before: votes(0, 2, 0)", () -> x.votes(0, 2, 0));
    }

    private static void countedWholeIfNotRead() {
        DUE.sentence("Terms", "or, if it isn't READ, THE WORD");
        SureCount x = Offices.withWords(3, 1, 1, 3, 3, 0, 7);
        DUE.is(1, "not sealed: votes(0, 1, 1)", () -> x.votes(0, 1, 1));
        x.seal(9);
        x.draw(9);
        DUE.is(2, "sealed and drawn: votes(0, 3, 1)", () -> x.votes(0, 3, 1));
        DUE.is(0, "votes(0, 2, 1)", () -> x.votes(0, 2, 1));
        x.read(1, 0, 5);
        DUE.is(2, "a refused reading: votes(0, 3, 1)", () -> x.votes(0, 3, 1));
    }

    private static void countedWholeOfLostOnes() {
        DUE.sentence("Terms", "of LOST ones THE WORD");
        SureCount x = Offices.withWords(3, 1, 1, 1, 2);
        x.lose(0, true);
        x.lose(2, true);
        DUE.is(2, "not sealed: votes(0, 1, 1)", () -> x.votes(0, 1, 1));
        x.seal(9);
        x.read(0, 0, 3);
        DUE.is(2, "votes(0, 1, 1)", () -> x.votes(0, 1, 1));
        DUE.is(1, "votes(0, 2, 1)", () -> x.votes(0, 2, 1));
        DUE.is(0, "votes(0, 3, 1)", () -> x.votes(0, 3, 1));
    }

    private static void promise7NoSuchRace() {
        DUE.sentence("Promise 7", "NoSuchElementException: no such RACE (as everywhere)");
        SureCount x = Offices.atWork();
        for (int race : NO_RACE_OF_TWO) {
            String of = "(" + race + ", ";
            DUE.noSuchElement("votes" + of + "1, 0)", () -> x.votes(race, 1, 0));
            DUE.noSuchElement("votes" + of + "1, 1)", () -> x.votes(race, 1, 1));
            DUE.noSuchElement("wins" + of + "1, 0)", () -> x.wins(race, 1, 0));
            DUE.noSuchElement("wins" + of + "1, 1)", () -> x.wins(race, 1, 1));
            DUE.noSuchElement("about" + of + "2)", () -> x.about(race, 2));
            DUE.noSuchElement("reading(0, " + race + ")", () -> x.reading(0, race));
            DUE.noSuchElement("risk(" + race + ")", () -> x.risk(race));
            DUE.noSuchElement("taken(" + race + ")", () -> x.taken(race));
            DUE.noSuchElement("taint" + of + "0)", () -> x.taint(race, 0));
            DUE.noSuchElement("need" + of + "5)", () -> x.need(race, 5));
        }
        DUE.is(3, "the first: about(0, 2)", () -> x.about(0, 2));
        DUE.is(2, "the last: about(1, 2)", () -> x.about(1, 2));
    }

    private static void promise7NoSuchCandidate() {
        DUE.sentence("Promise 7", "CANDIDATE, what.");
        for (int c = 2; c <= 6; c++) {
            SureCount x = new SureCount();
            x.race(c, 1);
            x.race(8 - c, 1);
            x.box();
            x.paper(0, 7 + 8);
            x.paper(0, 0);
            for (int candidate = -1; candidate <= 9; candidate++) {
                int asked = candidate;
                boolean isThere = candidate >= 1 && candidate <= c;
                String call = "(0, " + candidate + ", 0) of " + c;
                DUE.is(isThere ? 0 : "throws.NoSuchElementException", "votes" + call, () -> x.votes(0, asked, 0));
                DUE.is(isThere ? candidate == 1 : "throws.NoSuchElementException", "wins" + call,
                        () -> x.wins(0, asked, 0));
                DUE.is(isThere ? 0 : "throws.NoSuchElementException", "whole: votes" + call,
                        () -> x.votes(0, asked, 1));
            }
            DUE.noSuchElement("votes(0, min, 0)", () -> x.votes(0, Integer.MIN_VALUE, 0));
            DUE.noSuchElement("votes(0, max, 1)", () -> x.votes(0, Integer.MAX_VALUE, 1));
        }
    }

    private static void promise7NoSuchWhat() {
        DUE.sentence("Promise 7", "by THE WORD (what 0), as COUNTED whole (1)");
        SureCount x = Offices.atWork();
        DUE.is(2, "votes(0, 1, 0)", () -> x.votes(0, 1, 0));
        DUE.is(1, "votes(0, 1, 1)", () -> x.votes(0, 1, 1));
        int[] others = {-1, 2, 3, Integer.MIN_VALUE, Integer.MAX_VALUE};
        for (int what : others) {
            DUE.noSuchElement("votes(0, 1, " + what + ")", () -> x.votes(0, 1, what));
            DUE.noSuchElement("wins(0, 1, " + what + ")", () -> x.wins(0, 1, what));
        }
    }

    private static void winnersAre(String office, SureCount x, int what, boolean... due) {
        for (int c = 1; c <= due.length; c++) {
            int candidate = c;
            DUE.is(due[c - 1], office + ": wins(0, " + c + ", " + what + ")", () -> x.wins(0, candidate, what));
        }
    }

    private static void winnersByWord() {
        DUE.sentence("Terms", "BY THE WORD the WINNERS of a RACE are the w with most VOTES");
        winnersAre("one of two", Offices.withWords(2, 1, 2, 1, 2), 0, false, true);
        winnersAre("two of four", Offices.withWords(4, 2, 3, 3, 1, 4, 4), 0, false, false, true, true);
        winnersAre("one of six", Offices.withWords(6, 1, 6, 6, 5), 0, false, false, false, false, false, true);
        winnersAre("five of six", Offices.withWords(6, 5, Offices.words(2, 2, 1, 2, 2, 2)), 0,
                true, true, false, true, true, true);
        winnersAre("blank ones and those without it", Offices.withWords(2, 1, 0, 0, 7, 7, 2), 0, false, true);
    }

    private static void winnersOfLikeOnes() {
        DUE.sentence("Terms", "of like ones the least numbers; all others are LOSERS");
        winnersAre("like ones for the last seat", Offices.withWords(4, 2, 4, 4, 3, 2), 0, false, true, false, true);
        winnersAre("no papers", Offices.withWords(6, 5), 0, true, true, true, true, true, false);
        winnersAre("no votes", Offices.withWords(3, 1, 0, 7), 0, true, false, false);
        winnersAre("all alike", Offices.withWords(4, 2, 1, 2, 3, 4), 0, true, true, false, false);
        winnersAre("all alike, whole", Offices.withWords(4, 2, 1, 2, 3, 4), 1, true, true, false, false);
    }

    private static void winnersByHands() {
        DUE.sentence("Terms", "BY HANDS the WINNERS are as in 1., by these.");
        SureCount x = Offices.withWords(2, 1, 1, 1, 2);
        x.seal(1);
        winnersAre("none read", x, 1, true, false);
        x.read(0, 0, 0);
        winnersAre("like ones", x, 1, true, false);
        x.read(1, 0, 2);
        winnersAre("otherwise by hands", x, 1, false, true);
        winnersAre("as before by the word", x, 0, true, false);
    }

    private static void promise8NoSuchRaceCandidateWhat() {
        DUE.sentence("Promise 8", "Whether a CANDIDATE is a WINNER (what likewise).");
        SureCount x = Offices.withWords(2, 1, 1, 1, 2);
        DUE.is(true, "wins(0, 1, 1)", () -> x.wins(0, 1, 1));
        DUE.noSuchElement("wins(0, 0, 1)", () -> x.wins(0, 0, 1));
        DUE.noSuchElement("wins(0, 3, 1)", () -> x.wins(0, 3, 1));
        DUE.noSuchElement("wins(0, 1, 2)", () -> x.wins(0, 1, 2));
        DUE.noSuchElement("wins(0, 1, -1)", () -> x.wins(0, 1, -1));
        DUE.noSuchElement("wins(1, 1, 0)", () -> x.wins(1, 1, 0));
        DUE.noSuchElement("wins(-1, 1, 0)", () -> x.wins(-1, 1, 0));
    }

    private static void promise9N() {
        DUE.sentence("Terms", "N: how many PAPERS have the RACE by THE WORD.");
        SureCount x = Offices.withWords(5, 3, 1, 0, 7, 7, 2, 5);
        DUE.is(4, "blank ones have it, 7 hasn't: about(0, 0)", () -> x.about(0, 0));
        DUE.is(0, "no papers: about(0, 0)", () -> Offices.withWords(2, 1).about(0, 0));
        DUE.is(0, "on none: about(0, 0)", () -> Offices.withWords(2, 1, 7, 7).about(0, 0));
        DUE.is(3, "on all: about(0, 0)", () -> Offices.withWords(2, 1, 0, 1, 2).about(0, 0));
        SureCount lost = Offices.withWords(2, 1, 0, 1, 2);
        lost.lose(1, true);
        DUE.is(3, "a lost one has it: about(0, 0)", () -> lost.about(0, 0));
    }

    private static void marginIsTheLeast() {
        DUE.sentence("Terms", "that of a RACE the least of all");
        DUE.is(2, "the last winner over the first loser",
                () -> Offices.withWords(4, 2, Offices.words(5, 1, 0, 3)).about(0, 1));
        DUE.is(1, "like winners leave a margin", () -> Offices.withWords(3, 2, 1, 1, 2, 2, 3).about(0, 1));
        DUE.is(3, "like losers leave one too", () -> Offices.withWords(3, 1, Offices.words(1, 4, 1)).about(0, 1));
        DUE.is(0, "a winner like a loser", () -> Offices.withWords(3, 1, 2, 3).about(0, 1));
        DUE.is(4, "all for one", () -> Offices.withWords(2, 1, 2, 2, 2, 2).about(0, 1));
        DUE.is(1, "three over three", () -> Offices.withWords(6, 3, Offices.words(2, 7, 3, 1, 4, 9)).about(0, 1));
        DUE.is(1, "the last over the last", () -> Offices.withWords(6, 3, Offices.words(9, 8, 5, 1, 2, 4)).about(0, 1));
        DUE.is(1, "one over five", () -> Offices.withWords(6, 1, Offices.words(2, 7, 3, 8, 4, 9)).about(0, 1));
        DUE.is(1, "five over one", () -> Offices.withWords(6, 5, Offices.words(2, 7, 3, 8, 4, 1)).about(0, 1));
    }

    private static void marginOfAnEmptyOffice() {
        DUE.sentence("Terms", "A RACE whose MARGIN is 0 can't be made sure.");
        for (int c = 2; c <= 6; c++) {
            int candidates = c;
            DUE.is(0, "no papers: about(0, 1) of " + c,
                    () -> Offices.withWords(candidates, candidates - 1).about(0, 1));
            DUE.is(0, "no votes: about(0, 1) of " + c,
                    () -> Offices.withWords(candidates, 1, 0, 7).about(0, 1));
        }
    }

    private static void promise9CandidatesAndWinners() {
        DUE.sentence("Promise 9", "2 CANDIDATES, 3 how many win");
        for (int c = 2; c <= 6; c++) {
            for (int w = 1; w < c; w++) {
                SureCount x = Offices.withWords(c, w);
                DUE.is(c, "race(" + c + ", " + w + "): about(0, 2)", () -> x.about(0, 2));
                DUE.is(w, "race(" + c + ", " + w + "): about(0, 3)", () -> x.about(0, 3));
            }
        }
    }

    private static void promise9IsByTheWord() {
        DUE.sentence("Promise 9", "Of a RACE by THE WORD: 0 N, 1 MARGIN");
        SureCount x = Offices.withWords(2, 1, 1, 1, 2, 7);
        x.seal(1);
        x.read(0, 0, 7);
        x.read(1, 0, 2);
        x.read(3, 0, 1);
        x.lose(2, true);
        DUE.is(3, "about(0, 0)", () -> x.about(0, 0));
        DUE.is(1, "about(0, 1)", () -> x.about(0, 1));
    }

    private static void promise9AnotherWhat() {
        DUE.sentence("Promise 9", "NoSuchElementException: another what.");
        SureCount x = Offices.atWork();
        int[] others = {-1, 4, Integer.MIN_VALUE, Integer.MAX_VALUE};
        for (int what : others) {
            DUE.noSuchElement("about(0, " + what + ")", () -> x.about(0, what));
        }
    }
}
