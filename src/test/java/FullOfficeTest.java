/** The full office: all limits of the document reached at once, and one more of each refused. */
public final class FullOfficeTest {
    private static final Due DUE = new Due();

    public static void main(String[] args) {
        fullAtOnce();
        longestWalk();
        DUE.end();
    }

    /** Five races of six, ten boxes, 300 papers; paper p is in box p % 10 and for 1 + (p + r) % 6 in race r. */
    private static SureCount fullOffice() {
        SureCount x = new SureCount();
        for (int r = 0; r < 5; r++) {
            x.race(6, 1 + r);
        }
        for (int b = 0; b < 10; b++) {
            x.box();
        }
        for (int p = 0; p < 300; p++) {
            int word = 0;
            for (int r = 0; r < 5; r++) {
                word |= 1 + (p + r) % 6 << 3 * r;
            }
            x.paper(p % 10, p == 299 ? 7 | 7 << 12 : word);
        }
        return x;
    }

    private static void fullAtOnce() {
        DUE.sentence("Terms", "at most 300");
        SureCount x = fullOffice();
        DUE.is(-1, "race(2, 1)", () -> x.race(2, 1));
        DUE.is(-1, "box()", x::box);
        DUE.is(-1, "paper(9, 0)", () -> x.paper(9, 0));
        DUE.is(true, "seal(77)", () -> x.seal(77));
        for (int i = 1; i <= 20; i++) {
            DUE.is(100 * i, "draw(100)", () -> x.draw(100));
        }
        DUE.is(-1, "draw(1)", () -> x.draw(1));
        DUE.is(false, "seal(78)", () -> x.seal(78));
        DUE.is(-1, "sealed and full: paper(9, 0)", () -> x.paper(9, 0));
        int[] counts = {5, 10, 300, 0, 2000, 0, 1};
        for (int what = 0; what <= 6; what++) {
            int asked = what;
            DUE.is(counts[what], "count(" + what + ")", () -> x.count(asked));
        }
        votesOfAllRaces(x);
        drawsOfAllBoxes(x);
        DUE.is(true, "the last paper: read(299, 2, 6 << 12)", () -> x.read(299, 2, 6 << 12));
        DUE.is(6, "reading(299, 4)", () -> x.reading(299, 4));
        DUE.noSuchElement("reading(300, 4)", () -> x.reading(300, 4));
        DUE.noSuchElement("reading(299, 5)", () -> x.reading(299, 5));
    }

    /** Paper 299 lacks one vote of candidate 1 + (299 + r) % 6 in each race; in races 0 and 4 the race too. */
    private static void votesOfAllRaces(SureCount x) {
        for (int r = 0; r < 5; r++) {
            int race = r;
            int lacking = 1 + (299 + r) % 6;
            DUE.is(r == 0 || r == 4 ? 299 : 300, "about(" + r + ", 0)", () -> x.about(race, 0));
            for (int c = 1; c <= 6; c++) {
                int candidate = c;
                DUE.is(c == lacking ? 49 : 50, "votes(" + r + ", " + c + ", 0)", () -> x.votes(race, candidate, 0));
            }
        }
    }

    private static void drawsOfAllBoxes(SureCount x) {
        int[] thrown = Offices.thrown(77, 300, 2000);
        boolean[] isDrawn = new boolean[300];
        for (int paper : thrown) {
            isDrawn[paper] = true;
        }
        int[] unlike = new int[11];
        for (int p = 0; p < 300; p++) {
            unlike[p % 10] += isDrawn[p] ? 1 : 0;
            unlike[10] += isDrawn[p] ? 1 : 0;
        }
        for (int b = 0; b < 10; b++) {
            int box = b;
            DUE.is(unlike[b], "pulled(" + b + ")", () -> x.pulled(box));
        }
        DUE.is(unlike[10], "pulled(NONE)", () -> x.pulled(SureCount.NONE));
        DUE.noSuchElement("pulled(10)", () -> x.pulled(10));
        DUE.is(thrown[1999], "drawn(1999)", () -> x.drawn(1999));
        DUE.noSuchElement("drawn(2000)", () -> x.drawn(2000));
    }

    /** As long a walk as an object's calls allow: 150 papers, some of them lost, some read as blank. */
    private static void longestWalk() {
        DUE.sentence("Terms", "DRAWS, numbered from 0 on, at most 2,000");
        SureCount x = Offices.withWords(2, 1, Offices.words(140, 10));
        x.seal(-5);
        for (int i = 1; i <= 20; i++) {
            x.draw(100);
        }
        int[] gaps = new int[150];
        for (int p = 0; p < 150; p++) {
            boolean isForTheWinner = p < 140;
            if (p % 70 == 3) {
                x.lose(p, true);
                gaps[p] = isForTheWinner ? 2 : 0;
            } else if (p % 50 == 4) {
                x.read(p, 0, 0);
                gaps[p] = isForTheWinner ? 1 : -1;
            } else {
                x.read(p, 0, isForTheWinner ? 1 : 2);
            }
        }
        int risk = Risks.FULL;
        for (int paper : Offices.thrown(-5, 150, 2000)) {
            risk = Risks.carried(risk, 150, 130, gaps[paper], 130);
        }
        int due = risk;
        DUE.is(-1, "waits()", x::waits);
        DUE.is(2000, "taken(0)", () -> x.taken(0));
        DUE.is(due, "risk(0)", () -> x.risk(0));
    }
}
