/** Promises 2 and 3: race, box. */
public final class RaceAndBoxTest {
    private static final Due DUE = new Due();

    public static void main(String[] args) {
        promise2AtMostFive();
        promise2ThereAreFive();
        promise2CandidatesTwoToSix();
        promise2WinnersOneToAllButOne();
        promise2NotAsToldChangesNothing();
        promise2ThereIsAPaper();
        promise2ARefusedPaperIsNone();
        promise3AtMostTen();
        promise3ThereAreTen();
        promise3Sealed();
        DUE.end();
    }

    private static SureCount withRaces(int howMany) {
        SureCount x = new SureCount();
        for (int r = 0; r < howMany; r++) {
            x.race(2 + r, 1);
        }
        x.box();
        return x;
    }

    private static void promise2AtMostFive() {
        DUE.sentence("Terms", "RACES, numbered from 0 on, at most 5");
        SureCount x = new SureCount();
        for (int r = 0; r < 5; r++) {
            DUE.is(r, "race(6, " + (r + 1) + ")", () -> x.race(6, 1 + x.count(0)));
        }
        for (int r = 0; r < 5; r++) {
            int race = r;
            DUE.is(r + 1, "each race has its own numbers: about(" + r + ", 3)", () -> x.about(race, 3));
        }
    }

    private static void promise2ThereAreFive() {
        DUE.sentence("Promise 2", "NONE: there are 5");
        DUE.is(4, "the fifth race", () -> withRaces(4).race(2, 1));
        Twins full = new Twins(DUE, () -> withRaces(5));
        full.changeNothing(-1, "a sixth race: race(2, 1)", x -> x.race(2, 1));
        full.changeNothing(-1, "a sixth race: race(6, 5)", x -> x.race(6, 5));
    }

    private static void promise2CandidatesTwoToSix() {
        DUE.sentence("Terms", "c 2 to 6");
        for (int c = -3; c <= 10; c++) {
            int candidates = c;
            DUE.is(c >= 2 && c <= 6 ? 0 : -1, "race(" + c + ", 1)", () -> new SureCount().race(candidates, 1));
        }
        DUE.is(-1, "race(min, 1)", () -> new SureCount().race(Integer.MIN_VALUE, 1));
        DUE.is(-1, "race(max, 1)", () -> new SureCount().race(Integer.MAX_VALUE, 1));
        DUE.is(-1, "race(1, 0)", () -> new SureCount().race(1, 0));
        DUE.is(-1, "race(7, 6)", () -> new SureCount().race(7, 6));
        DUE.is(-1, "race(0, -1)", () -> new SureCount().race(0, -1));
    }

    private static void promise2WinnersOneToAllButOne() {
        DUE.sentence("Terms", "w 1 to c - 1");
        for (int c = 2; c <= 6; c++) {
            for (int w = -2; w <= 8; w++) {
                int candidates = c;
                int winners = w;
                DUE.is(w >= 1 && w <= c - 1 ? 0 : -1, "race(" + c + ", " + w + ")",
                        () -> new SureCount().race(candidates, winners));
            }
        }
        DUE.is(-1, "race(6, min)", () -> new SureCount().race(6, Integer.MIN_VALUE));
        DUE.is(-1, "race(6, max)", () -> new SureCount().race(6, Integer.MAX_VALUE));
    }

    private static void promise2NotAsToldChangesNothing() {
        DUE.sentence("Promise 2", "or a number is not as told");
        Twins two = new Twins(DUE, () -> withRaces(2));
        two.changeNothing(-1, "race(1, 1)", x -> x.race(1, 1));
        two.changeNothing(-1, "race(7, 1)", x -> x.race(7, 1));
        two.changeNothing(-1, "race(4, 0)", x -> x.race(4, 0));
        two.changeNothing(-1, "race(4, 4)", x -> x.race(4, 4));
        SureCount x = withRaces(2);
        x.race(4, 4);
        DUE.is(2, "the next race behind a refused one", () -> x.race(4, 3));
    }

    private static void promise2ThereIsAPaper() {
        DUE.sentence("Promise 2", "there is a PAPER");
        SureCount x = withRaces(1);
        DUE.is(1, "a race behind a box: race(2, 1)", () -> x.race(2, 1));
        Twins one = new Twins(DUE, () -> {
            SureCount made = withRaces(1);
            made.paper(0, 1);
            return made;
        });
        one.changeNothing(-1, "behind one paper: race(2, 1)", made -> made.race(2, 1));
        new Twins(DUE, Offices::unsealed).changeNothing(-1, "behind four: race(6, 5)", made -> made.race(6, 5));
        new Twins(DUE, Offices::atWork).changeNothing(-1, "once sealed: race(2, 1)", made -> made.race(2, 1));
    }

    private static void promise2ARefusedPaperIsNone() {
        DUE.sentence("Terms", "No RACE comes as soon as there is a PAPER");
        SureCount x = withRaces(1);
        x.paper(0, 3);
        DUE.is(0, "the paper was refused: count(2)", () -> x.count(2));
        DUE.is(1, "so a race comes: race(2, 1)", () -> x.race(2, 1));
        x.seal(1);
        DUE.is(2, "as it does behind a refused seal: race(2, 1)", () -> x.race(2, 1));
        x.paper(0, 7);
        DUE.is(-1, "a paper without that race is one too: race(2, 1)", () -> x.race(2, 1));
    }

    private static SureCount withBoxes(int howMany) {
        SureCount x = new SureCount();
        for (int b = 0; b < howMany; b++) {
            x.box();
        }
        return x;
    }

    private static void promise3AtMostTen() {
        DUE.sentence("Terms", "BOXES, from 0 on, at most 10");
        SureCount x = new SureCount();
        for (int b = 0; b < 10; b++) {
            DUE.is(b, "box()", x::box);
        }
        DUE.is(0, "a paper in the last: paper(9, 0)", () -> x.paper(9, 0));
        DUE.is(0, "pulled(9)", () -> x.pulled(9));
        DUE.noSuchElement("paper(10, 0)", () -> x.paper(10, 0));
        DUE.noSuchElement("pulled(10)", () -> x.pulled(10));
    }

    private static void promise3ThereAreTen() {
        DUE.sentence("Promise 3", "NONE: there are 10");
        DUE.is(9, "the tenth box", () -> withBoxes(9).box());
        new Twins(DUE, () -> withBoxes(10)).changeNothing(-1, "an eleventh box", SureCount::box);
    }

    private static void promise3Sealed() {
        DUE.sentence("Promise 3", "or it is SEALED");
        DUE.is(2, "a box behind papers", () -> Offices.unsealed().box());
        DUE.is(1, "a box behind a refused seal", () -> {
            SureCount x = withBoxes(1);
            x.seal(1);
            return x.box();
        });
        new Twins(DUE, Offices::atWork).changeNothing(-1, "a box once sealed", SureCount::box);
    }
}
