/** Promises 14 and 15: read, reading. */
public final class HandTest {
    private static final Due DUE = new Due();
    private static final String NO_SUCH = "throws.NoSuchElementException";

    public static void main(String[] args) {
        promise14Read();
        promise14NotSealed();
        promise14Lost();
        promise14ReadAlready();
        promise14HasWhatThereIsNot();
        promise14EveryMark();
        promise14NoSuchHand();
        readIfSomeHandReadIt();
        readingOfOneHand();
        readingOfSeveral();
        readingOfEveryThree();
        readingOfRacesApart();
        promise15None();
        promise15NoSuchPaperOrRace();
        DUE.end();
    }

    private static void promise14Read() {
        DUE.sentence("Promise 14", "A PAPER is READ by a HAND: true.");
        SureCount x = Offices.withWords(2, 1, 1, 2);
        x.seal(1);
        DUE.is(true, "not even drawn: read(0, 0, 1)", () -> x.read(0, 0, 1));
        DUE.is(true, "another hand: read(0, 2, 1)", () -> x.read(0, 2, 1));
        DUE.is(true, "the third hand: read(0, 1, 1)", () -> x.read(0, 1, 1));
        DUE.is(true, "the last paper: read(1, 0, 7)", () -> x.read(1, 0, 7));
    }

    private static void promise14NotSealed() {
        DUE.sentence("Promise 14", "False: it isn't SEALED");
        Twins twins = new Twins(DUE, Offices::unsealed);
        twins.changeNothing(false, "read(0, 0, 9)", x -> x.read(0, 0, 9));
        twins.changeNothing(false, "read(2, 2, 0)", x -> x.read(2, 2, 0));
        SureCount x = Offices.unsealed();
        x.read(0, 0, 9);
        x.seal(1);
        DUE.is(true, "that hand reads it behind the seal: read(0, 0, 9)", () -> x.read(0, 0, 9));
    }

    private static void promise14Lost() {
        DUE.sentence("Promise 14", "that one is LOST");
        Twins twins = new Twins(DUE, Offices::atWork);
        twins.changeNothing(false, "read(3, 0, 9)", x -> x.read(3, 0, 9));
        twins.changeNothing(false, "read(3, 2, 0)", x -> x.read(3, 2, 0));
        SureCount x = Offices.atWork();
        x.read(3, 0, 9);
        x.lose(3, false);
        DUE.is(-1, "it isn't read by that: reading(3, 0)", () -> x.reading(3, 0));
        DUE.is(true, "found again: read(3, 0, 9)", () -> x.read(3, 0, 9));
    }

    private static void promise14ReadAlready() {
        DUE.sentence("Promise 14", "that HAND read it already");
        for (int h = 0; h <= 2; h++) {
            int hand = h;
            Twins twins = new Twins(DUE, () -> {
                SureCount x = Offices.atWork();
                x.read(2, hand, 3 + 8);
                return x;
            });
            twins.changeNothing(false, "another word: read(2, " + h + ", 1)", x -> x.read(2, hand, 1));
            twins.changeNothing(false, "the same: read(2, " + h + ", 11)", x -> x.read(2, hand, 3 + 8));
            SureCount x = Offices.withWords(2, 1, 1, 1);
            x.seal(1);
            x.read(0, hand, 1);
            DUE.is(false, "again: read(0, " + h + ", 2)", () -> x.read(0, hand, 2));
            DUE.is(1, "its first word stays: reading(0, 0)", () -> x.reading(0, 0));
            DUE.is(true, "another paper: read(1, " + h + ", 2)", () -> x.read(1, hand, 2));
            DUE.is(true, "another hand: read(0, " + (h + 1) % 3 + ", 2)", () -> x.read(0, (hand + 1) % 3, 2));
        }
    }

    private static void promise14HasWhatThereIsNot() {
        DUE.sentence("Promise 14", "or some RACE has what there is not");
        Twins twins = new Twins(DUE, Offices::atWork);
        twins.changeNothing(false, "race 0 has no 4: read(2, 0, 4)", x -> x.read(2, 0, 4));
        twins.changeNothing(false, "race 0 has no 6: read(2, 0, 6)", x -> x.read(2, 0, 6));
        twins.changeNothing(false, "race 1 has no 3: read(2, 1, 1 + 24)", x -> x.read(2, 1, 1 + 3 * 8));
        twins.changeNothing(false, "race 1 has no 6: read(0, 1, 1 + 48)", x -> x.read(0, 1, 1 + 6 * 8));
        SureCount x = Offices.atWork();
        x.read(2, 0, 4);
        DUE.is(true, "that hand reads it again: read(2, 0, 3)", () -> x.read(2, 0, 3));
        DUE.is(true, "bits of races that are not there: read(2, 1, -64)", () -> x.read(2, 1, -64));
        DUE.is(true, "all bits: read(2, 2, -1)", () -> x.read(2, 2, -1));
    }

    private static void promise14EveryMark() {
        DUE.sentence("Terms", "likewise as a row of bits");
        for (int c = 2; c <= 6; c++) {
            SureCount x = new SureCount();
            for (int r = 0; r < 5; r++) {
                x.race(c, 1);
            }
            x.box();
            for (int p = 0; p < 40; p++) {
                x.paper(0, 0);
            }
            x.seal(1);
            for (int p = 0; p < 40; p++) {
                int paper = p;
                int race = p / 8;
                int mark = p % 8;
                boolean isThere = mark <= c || mark == 7;
                String what = "five races of " + c + ", " + mark + " in race " + race + ": ";
                DUE.is(isThere, what + "read", () -> x.read(paper, 1, mark << 3 * race));
                DUE.is(isThere ? mark : -1, what + "reading", () -> x.reading(paper, race));
                DUE.is(isThere ? 0 : -1, what + "the next race", () -> x.reading(paper, (race + 1) % 5));
            }
        }
    }

    private static void promise14NoSuchHand() {
        DUE.sentence("Promise 14", "NoSuchElementException: also no such HAND.");
        int[] others = {-1, 3, 32, 33, Integer.MIN_VALUE, Integer.MAX_VALUE};
        for (int hand : others) {
            Twins twins = new Twins(DUE, Offices::atWork);
            twins.noSuchElement("read(2, " + hand + ", 9)", x -> x.read(2, hand, 9));
            twins.noSuchElement("a lost one: read(3, " + hand + ", 9)", x -> x.read(3, hand, 9));
            twins.noSuchElement("no such mark: read(2, " + hand + ", 4)", x -> x.read(2, hand, 4));
            Twins unsealed = new Twins(DUE, Offices::unsealed);
            unsealed.noSuchElement("not sealed: read(2, " + hand + ", 9)", x -> x.read(2, hand, 9));
        }
        for (int h = 0; h <= 2; h++) {
            int hand = h;
            DUE.is(true, "read(2, " + h + ", 9)", () -> Offices.atWork().read(2, hand, 9));
        }
    }

    private static void readIfSomeHandReadIt() {
        DUE.sentence("Terms", "A PAPER is READ, if some HAND read it.");
        for (int h = 0; h <= 2; h++) {
            SureCount x = Offices.withWords(2, 1, 1, 2);
            x.seal(1);
            x.read(1, h, 7);
            DUE.is(1, "hand " + h + " alone: count(5)", () -> x.count(5));
            DUE.is(7, "hand " + h + " alone: reading(1, 0)", () -> x.reading(1, 0));
            DUE.is(-1, "hand " + h + " alone: reading(0, 0)", () -> x.reading(0, 0));
        }
    }

    private static void readingOfOneHand() {
        DUE.sentence("Terms", "THE READING of a PAPER for a RACE: of one HAND its own");
        for (int hand = 0; hand < 3; hand++) {
            SureCount x = Offices.withWords(6, 1, 1, 1, 1, 1, 1, 1, 1, 1);
            x.seal(1);
            for (int mark = 0; mark <= 7; mark++) {
                int paper = mark;
                x.read(paper, hand, mark);
                DUE.is(mark, "hand " + hand + " alone: reading(" + paper + ", 0)", () -> x.reading(paper, 0));
            }
        }
    }

    private static void readingOfSeveral() {
        DUE.sentence("Terms", "of several what two of them have, if two agree; else 0 (blank)");
        int[][] pairs = {{0, 1}, {0, 2}, {1, 2}, {1, 0}, {2, 0}, {2, 1}};
        for (int[] pair : pairs) {
            for (int first = 0; first <= 7; first++) {
                SureCount x = Offices.withWords(6, 1, 1, 1, 1, 1, 1, 1, 1, 1);
                x.seal(1);
                for (int second = 0; second <= 7; second++) {
                    int paper = second;
                    x.read(paper, pair[0], first);
                    x.read(paper, pair[1], second);
                    DUE.is(first == second ? first : 0, "hand " + pair[0] + " has " + first + ", hand " + pair[1]
                            + " has " + second + ": reading(" + paper + ", 0)", () -> x.reading(paper, 0));
                }
            }
        }
    }

    private static void readingOfEveryThree() {
        DUE.sentence("Terms", "of several what two of them have, if two agree; else 0 (blank)");
        for (int a = 0; a <= 7; a++) {
            for (int b = 0; b <= 7; b++) {
                for (int c = 0; c <= 7; c++) {
                    SureCount x = Offices.withWords(6, 1, 1);
                    x.seal(1);
                    x.read(0, 2, c);
                    x.read(0, 0, a);
                    x.read(0, 1, b);
                    int due = a == b || a == c ? a : b == c ? b : 0;
                    DUE.is(due, "hands " + a + " " + b + " " + c, () -> x.reading(0, 0));
                }
            }
        }
    }

    private static void readingOfRacesApart() {
        DUE.sentence("Promise 15", "THE READING of a PAPER for a RACE (0 to 7)");
        SureCount x = new SureCount();
        for (int r = 0; r < 5; r++) {
            x.race(6, 1);
        }
        x.box();
        x.paper(0, 0);
        x.seal(1);
        x.read(0, 0, 1 | 2 << 3 | 3 << 6 | 4 << 9 | 5 << 12);
        x.read(0, 1, 1 | 6 << 3 | 0 << 6 | 2 << 9 | 7 << 12);
        x.read(0, 2, 3 | 2 << 3 | 0 << 6 | 1 << 9 | 7 << 12);
        int[] due = {1, 2, 0, 0, 7};
        for (int r = 0; r < 5; r++) {
            int race = r;
            DUE.is(due[r], "reading(0, " + r + ")", () -> x.reading(0, race));
        }
    }

    private static void promise15None() {
        DUE.sentence("Promise 15", "NONE: it isn't READ.");
        DUE.is(-1, "not sealed: reading(0, 0)", () -> Offices.unsealed().reading(0, 0));
        DUE.is(-1, "not sealed and lost: reading(3, 1)", () -> Offices.unsealed().reading(3, 1));
        DUE.is(-1, "not read: reading(2, 0)", () -> Offices.atWork().reading(2, 0));
        DUE.is(-1, "lost: reading(3, 0)", () -> Offices.atWork().reading(3, 0));
        DUE.is(0, "read: reading(0, 0)", () -> Offices.atWork().reading(0, 0));
        DUE.is(1, "read: reading(1, 0)", () -> Offices.atWork().reading(1, 0));
    }

    private static void promise15NoSuchPaperOrRace() {
        DUE.sentence("Promise 15", "int reading(int paper, int race) throws NoSuchElementException");
        SureCount x = Offices.atWork();
        for (int paper = -1; paper <= 4; paper++) {
            for (int race = -1; race <= 2; race++) {
                int p = paper;
                int r = race;
                boolean isThere = p >= 0 && p < 4 && r >= 0 && r < 2;
                int[][] due = {{0, 1}, {1, 2}, {-1, -1}, {-1, -1}};
                DUE.is(isThere ? due[p][r] : NO_SUCH, "reading(" + p + ", " + r + ")", () -> x.reading(p, r));
            }
        }
    }
}
