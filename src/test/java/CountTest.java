/** Promise 20: count. */
public final class CountTest {
    private static final Due DUE = new Due();

    public static void main(String[] args) {
        eachCount();
        lostOnes();
        readPapers();
        whetherItIsSealed();
        anotherWhat();
        DUE.end();
    }

    private static void eachCount() {
        DUE.sentence("Promise 20", "0 RACES, 1 BOXES, 2 PAPERS, 3 LOST ones, 4 DRAWS, 5 READ PAPERS");
        SureCount x = new SureCount();
        x.race(3, 1);
        x.race(2, 1);
        x.box();
        x.box();
        x.box();
        for (int p = 0; p < 5; p++) {
            x.paper(p % 3, 9);
        }
        x.lose(4, true);
        x.seal(5);
        x.draw(7);
        x.read(0, 0, 9);
        x.read(3, 2, 9);
        x.read(2, 2, 0);
        int[] due = {2, 3, 5, 1, 7, 3, 1};
        for (int what = 0; what <= 6; what++) {
            int asked = what;
            DUE.is(due[what], "count(" + what + ")", () -> x.count(asked));
        }
    }

    private static void lostOnes() {
        DUE.sentence("Promise 20", "3 LOST ones");
        SureCount x = Offices.withWords(2, 1, 1, 1, 2);
        DUE.is(0, "none: count(3)", () -> x.count(3));
        x.lose(0, true);
        x.lose(0, true);
        DUE.is(1, "one told twice: count(3)", () -> x.count(3));
        x.lose(1, true);
        x.lose(2, true);
        DUE.is(3, "all: count(3)", () -> x.count(3));
        x.lose(1, false);
        x.lose(1, false);
        DUE.is(2, "one found, told twice: count(3)", () -> x.count(3));
    }

    private static void readPapers() {
        DUE.sentence("Promise 20", "5 READ PAPERS");
        SureCount x = Offices.withWords(2, 1, 1, 1, 2);
        x.read(0, 0, 1);
        DUE.is(0, "not sealed: count(5)", () -> x.count(5));
        x.seal(1);
        x.read(0, 0, 1);
        x.read(0, 1, 1);
        x.read(0, 2, 2);
        DUE.is(1, "one read by three: count(5)", () -> x.count(5));
        x.lose(1, true);
        x.read(1, 0, 1);
        DUE.is(1, "a lost one isn't: count(5)", () -> x.count(5));
        x.lose(1, false);
        x.read(1, 2, 1);
        x.read(2, 1, 7);
        DUE.is(3, "all: count(5)", () -> x.count(5));
    }

    private static void whetherItIsSealed() {
        DUE.sentence("Promise 20", "6 whether it is SEALED (1)");
        SureCount x = Offices.withWords(2, 1);
        x.seal(1);
        DUE.is(0, "refused: count(6)", () -> x.count(6));
        x.paper(0, 1);
        DUE.is(0, "not yet: count(6)", () -> x.count(6));
        x.seal(1);
        DUE.is(1, "sealed: count(6)", () -> x.count(6));
        x.seal(1);
        DUE.is(1, "for good: count(6)", () -> x.count(6));
    }

    private static void anotherWhat() {
        DUE.sentence("Promise 20", "NoSuchElementException: another what.");
        int[] others = {-1, 7, Integer.MIN_VALUE, Integer.MAX_VALUE};
        Twins twins = new Twins(DUE, Offices::atWork);
        for (int what : others) {
            DUE.noSuchElement("empty: count(" + what + ")", () -> new SureCount().count(what));
            twins.noSuchElement("count(" + what + ")", x -> x.count(what));
        }
    }
}
