/** Promise 1: the empty office; and that an office has all that it knows from its own calls. */
public final class NewObjectTest {
    private static final Due DUE = new Due();
    private static final String PLACE = "Promise 1";
    private static final String WORDS = "No RACES, BOXES, PAPERS; not SEALED.";

    public static void main(String[] args) {
        noneIsMinusOne();
        noRaces();
        noBoxes();
        noPapers();
        notSealed();
        numbersBeginWithNone();
        refusedCallsOfAnEmptyOffice();
        officesAreApart();
        the512thCall();
        DUE.end();
    }

    private static void noneIsMinusOne() {
        DUE.sentence("The public face", "NONE = -1");
        DUE.is(-1, "NONE", () -> SureCount.NONE);
    }

    private static void noRaces() {
        DUE.sentence(PLACE, WORDS);
        SureCount x = new SureCount();
        DUE.is(0, "count(0)", () -> x.count(0));
        DUE.noSuchElement("votes(0, 1, 0)", () -> x.votes(0, 1, 0));
        DUE.noSuchElement("wins(0, 1, 0)", () -> x.wins(0, 1, 0));
        DUE.noSuchElement("about(0, 0)", () -> x.about(0, 0));
        DUE.noSuchElement("reading(0, 0)", () -> x.reading(0, 0));
        DUE.noSuchElement("risk(0)", () -> x.risk(0));
        DUE.noSuchElement("taken(0)", () -> x.taken(0));
        DUE.noSuchElement("taint(0, 0)", () -> x.taint(0, 0));
        DUE.noSuchElement("need(0, 1)", () -> x.need(0, 1));
    }

    private static void noBoxes() {
        DUE.sentence(PLACE, WORDS);
        SureCount x = new SureCount();
        DUE.is(0, "count(1)", () -> x.count(1));
        DUE.noSuchElement("paper(0, 0)", () -> x.paper(0, 0));
        DUE.noSuchElement("pulled(0)", () -> x.pulled(0));
        DUE.is(0, "pulled(NONE)", () -> x.pulled(SureCount.NONE));
    }

    private static void noPapers() {
        DUE.sentence(PLACE, WORDS);
        SureCount x = new SureCount();
        DUE.is(0, "count(2)", () -> x.count(2));
        DUE.is(0, "count(3)", () -> x.count(3));
        DUE.is(0, "count(5)", () -> x.count(5));
        DUE.noSuchElement("lose(0, true)", () -> x.lose(0, true));
        DUE.noSuchElement("lose(0, false)", () -> x.lose(0, false));
        DUE.noSuchElement("read(0, 0, 0)", () -> x.read(0, 0, 0));
        DUE.is(false, "seal(1)", () -> x.seal(1));
    }

    private static void notSealed() {
        DUE.sentence(PLACE, WORDS);
        SureCount x = new SureCount();
        DUE.is(0, "count(6)", () -> x.count(6));
        DUE.is(-1, "draw(0)", () -> x.draw(0));
        DUE.is(-1, "draw(1)", () -> x.draw(1));
        DUE.is(0, "count(4)", () -> x.count(4));
        DUE.noSuchElement("drawn(0)", () -> x.drawn(0));
        DUE.is(-1, "waits()", x::waits);
    }

    private static void numbersBeginWithNone() {
        DUE.sentence(PLACE, WORDS);
        SureCount x = new SureCount();
        DUE.is(0, "the first race", () -> x.race(2, 1));
        DUE.is(0, "the first box", x::box);
        DUE.is(0, "the first paper", () -> x.paper(0, 1));
    }

    private static void refusedCallsOfAnEmptyOffice() {
        DUE.sentence(PLACE, WORDS);
        Twins twins = new Twins(DUE, SureCount::new);
        twins.changeNothing(false, "seal(1)", x -> x.seal(1));
        twins.changeNothing(-1, "draw(0)", x -> x.draw(0));
        twins.changeNothing(-1, "draw(100)", x -> x.draw(100));
        twins.illegalArgument("draw(-1)", x -> x.draw(-1));
        twins.noSuchElement("paper(0, 0)", x -> x.paper(0, 0));
        twins.noSuchElement("lose(0, true)", x -> x.lose(0, true));
        twins.noSuchElement("read(0, 0, 0)", x -> x.read(0, 0, 0));
        twins.changeNothing(-1, "race(1, 1)", x -> x.race(1, 1));
    }

    private static void officesAreApart() {
        DUE.sentence(PLACE, WORDS);
        Twins twins = new Twins(DUE, SureCount::new);
        twins.changeNothing(2, "another office's work", x -> Offices.atWork().count(0));
        Twins atWork = new Twins(DUE, Offices::atWork);
        atWork.changeNothing(0, "another new office", x -> new SureCount().count(0));
    }

    private static void the512thCall() {
        DUE.sentence("What it is", "An object is used for at most 512 calls after it has been made");
        SureCount x = Offices.sixToFour();
        x.draw(4);
        for (int call = 15; call <= 511; call++) {
            x.risk(0);
        }
        DUE.is(0, "the 512th call: waits()", x::waits);
    }
}
