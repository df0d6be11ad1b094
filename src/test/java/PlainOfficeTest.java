import java.util.Random;

/** All promises: runs of 512 calls by told seeds, each answer held against that of the plain office. */
public final class PlainOfficeTest {
    private static final Due DUE = new Due();
    private static final int RUNS = 150;
    private static final int CALLS = 512;
    private static final int[] ODD_NUMBERS = {-1, -2, 3, 5, 6, 7, 8, 10, 300, 2000, 2001, Integer.MAX_VALUE,
        Integer.MIN_VALUE, -10};

    private final Random random;
    private final int run;
    private final SureCount x = new SureCount();
    private final PlainOffice plain = new PlainOffice();
    private final int papersAimedAt;
    private final int[] raceCandidates = new int[5];
    private int call = 0;

    private PlainOfficeTest(int run) {
        this.run = run;
        random = new Random(run);
        papersAimedAt = 1 + random.nextInt(run % 3 == 0 ? 6 : run % 3 == 1 ? 30 : 120);
    }

    public static void main(String[] args) {
        for (int run = 0; run < RUNS; run++) {
            new PlainOfficeTest(run).go();
        }
        DUE.end();
    }

    private void go() {
        begin();
        while (call < CALLS) {
            if (plain.count(6) == 0 && plain.count(2) < papersAimedAt && random.nextInt(8) != 0) {
                addPaper();
            } else if (plain.count(6) == 0 && random.nextInt(6) == 0) {
                long seed = random.nextLong();
                ask("seal(" + seed + ")", () -> x.seal(seed), () -> plain.seal(seed));
            } else if (random.nextInt(3) == 0) {
                work();
            } else {
                question();
            }
        }
    }

    private void begin() {
        int races = random.nextInt(6);
        for (int r = 0; r < races; r++) {
            int c = 2 + random.nextInt(5);
            int w = 1 + random.nextInt(c - 1);
            raceCandidates[r] = c;
            ask("race(" + c + ", " + w + ")", () -> x.race(c, w), () -> plain.race(c, w));
        }
        for (int b = random.nextInt(4); b >= 0; b--) {
            ask("box()", x::box, plain::box);
        }
    }

    private void addPaper() {
        int box = number(plain.count(1));
        int word = word();
        ask("paper(" + box + ", " + word + ")", () -> x.paper(box, word), () -> plain.paper(box, word));
    }

    private void work() {
        int paper = random.nextInt(4) != 0 && plain.waits() >= 0 ? plain.drawn(plain.waits()) : number(plain.count(2));
        switch (random.nextInt(8)) {
            case 0:
                int n = random.nextInt(20) == 0 ? odd() : random.nextInt(random.nextInt(4) == 0 ? 102 : 5);
                ask("draw(" + n + ")", () -> x.draw(n), () -> plain.draw(n));
                break;
            case 1:
                boolean is = random.nextInt(3) != 0;
                ask("lose(" + paper + ", " + is + ")", () -> x.lose(paper, is), () -> plain.lose(paper, is));
                break;
            case 2:
                strange();
                break;
            default:
                int hand = random.nextInt(40) == 0 ? odd() : random.nextInt(3);
                int word = word();
                ask("read(" + paper + ", " + hand + ", " + word + ")", () -> x.read(paper, hand, word),
                        () -> plain.read(paper, hand, word));
        }
    }

    /** What comes too late, mostly. */
    private void strange() {
        int a = random.nextInt(8);
        int b = random.nextInt(6);
        switch (random.nextInt(5)) {
            case 0:
                ask("box()", x::box, plain::box);
                break;
            case 1:
                ask("seal(" + a + ")", () -> x.seal(a), () -> plain.seal(a));
                break;
            case 2:
                if (plain.count(2) > 0) {
                    ask("race(" + a + ", " + b + ")", () -> x.race(a, b), () -> plain.race(a, b));
                }
                break;
            default:
                addPaper();
        }
    }

    private void question() {
        int race = number(plain.count(0));
        int candidate = random.nextInt(30) == 0 ? odd() : 1 + random.nextInt(6);
        int what = random.nextInt(30) == 0 ? odd() : random.nextInt(2);
        int draw = number(plain.count(4));
        int limit = random.nextInt(20) == 0 ? odd() : random.nextInt(1_000_000_001) >> random.nextInt(30);
        switch (random.nextInt(13)) {
            case 0 -> ask("votes(" + race + ", " + candidate + ", " + what + ")",
                    () -> x.votes(race, candidate, what), () -> plain.votes(race, candidate, what));
            case 1 -> ask("wins(" + race + ", " + candidate + ", " + what + ")",
                    () -> x.wins(race, candidate, what), () -> plain.wins(race, candidate, what));
            case 2 -> ask("about(" + race + ", " + candidate % 4 + ")", () -> x.about(race, candidate % 4),
                    () -> plain.about(race, candidate % 4));
            case 3 -> ask("drawn(" + draw + ")", () -> x.drawn(draw), () -> plain.drawn(draw));
            case 4 -> ask("waits()", x::waits, plain::waits);
            case 5 -> ask("pulled(" + (candidate - 2) + ")", () -> x.pulled(candidate - 2),
                    () -> plain.pulled(candidate - 2));
            case 6 -> {
                int paper = number(plain.count(2));
                ask("reading(" + paper + ", " + race + ")", () -> x.reading(paper, race),
                        () -> plain.reading(paper, race));
            }
            case 7, 8 -> ask("risk(" + race + ")", () -> x.risk(race), () -> plain.risk(race));
            case 9 -> ask("taken(" + race + ")", () -> x.taken(race), () -> plain.taken(race));
            case 10 -> ask("taint(" + race + ", " + draw + ")", () -> x.taint(race, draw),
                    () -> plain.taint(race, draw));
            case 11 -> ask("need(" + race + ", " + limit + ")", () -> x.need(race, limit),
                    () -> plain.need(race, limit));
            default -> ask("count(" + candidate + ")", () -> x.count(candidate), () -> plain.count(candidate));
        }
    }

    private int number(int howMany) {
        return howMany == 0 || random.nextInt(40) == 0 ? odd() : random.nextInt(howMany);
    }

    private int odd() {
        return ODD_NUMBERS[random.nextInt(ODD_NUMBERS.length)];
    }

    /** Mostly for small candidates, so that there are margins, and readings that agree. */
    private int word() {
        int word = random.nextInt(20) == 0 ? random.nextInt() << 15 : 0;
        for (int r = 0; r < 5; r++) {
            int c = Math.max(1, raceCandidates[r]);
            int kind = random.nextInt(60);
            int mark = kind < 45 ? 1 + Math.min(random.nextInt(c), random.nextInt(c)) : kind < 52 ? 7 : 0;
            if (random.nextInt(100) == 0) {
                mark = random.nextInt(8);
            }
            word |= mark << 3 * r;
        }
        return word;
    }

    private void ask(String text, Due.Call made, Due.Call due) {
        call++;
        DUE.is(Due.told(due), "run " + run + ", call " + call + ": " + text, made);
    }
}
