import java.util.NoSuchElementException;
import java.util.Random;

/** Promises 11 to 17: freezing and feeding. */
final class FreezingTest {
    private static final Class<IllegalArgumentException> ILLEGAL = IllegalArgumentException.class;
    private static final Class<IndexOutOfBoundsException> OUTSIDE = IndexOutOfBoundsException.class;
    private static final Class<NoSuchElementException> NONE = NoSuchElementException.class;
    private static final int[] NO_HEATS = {1199, 1501, 0, -1, Integer.MIN_VALUE, Integer.MAX_VALUE};

    public static void main(String[] arguments) {
        promises11And12OneCell();
        promises11And12ChillAndCore();
        promise12LateFilling();
        promises11And12Wrong();
        promise13IsFed();
        promises14And15Shrunk();
        promise16LastPlace();
        promise17BestFeeder();
        comparedWithNaive();
        inTheFirstCorner();
        upTo400Steps();
        drawingChangesWhatWasKnown();
        Check.end("FreezingTest");
    }

    /** Reckoned by hand. */
    private static void promises11And12OneCell() {
        Ironpour x = new Ironpour();
        x.draw('g', 5, 0, 1, 1);
        int[] gate = {1200, 1150, 1150, 894};
        int[] left = {20, 93, 147, 188};
        for (int step = 0; step < gate.length; step++) {
            Check.same("the gate behind " + step, x.heatAt(5, 0, 1200, step), gate[step]);
            Check.same("left of it behind " + step, x.heatAt(4, 0, 1200, step), left[step]);
        }
        Check.same("frozenIn", x.frozenIn(5, 0, 1200), 2);
        Check.same("frozenIn of sand", x.frozenIn(4, 0, 1200), -1);
        Check.same("heat of the pour", x.heatAt(5, 0, 1500, 0), 1500);
        Check.same("left of a hotter one", x.heatAt(4, 0, 1500, 1), 20 + 92);
    }

    /** Reckoned by hand: one cell beside a chill, and one beside a core. */
    private static void promises11And12ChillAndCore() {
        Ironpour x = new Ironpour();
        x.draw('g', 5, 0, 1, 1);
        x.draw('k', 5, 1, 1, 1);
        Check.same("frozenIn beside a chill", x.frozenIn(5, 0, 1200), 1);
        Check.same("the gate", x.heatAt(5, 0, 1200, 1), 1150);
        Check.same("the chill", x.heatAt(5, 1, 1200, 1), 278);
        x.draw('o', 5, 1, 1, 1);
        Check.same("frozenIn beside a core", x.frozenIn(5, 0, 1200), 2);
        Check.same("the core", x.heatAt(5, 1, 1200, 1), 75);
        x.draw('c', 5, 1, 1, 1);
        Check.same("filled a step later", x.heatAt(5, 1, 1300, 0), 1298);
        Check.same("18 below are not yet frozen", x.frozenIn(5, 0, 1420) > 1 ? 1 : 0, 1);
        x.draw('.', 5, 1, 1, 1);
        x.draw('k', 5, 2, 1, 1);
        x.draw('o', 6, 2, 1, 1);
        Check.same("nothing passes between cold ones", x.heatAt(5, 2, 1200, 1), 20);
    }

    /** A winding run of 80 cells: what is filled at less than 1150 has given off melting heat already. */
    private static void promise12LateFilling() {
        Ironpour x = new Ironpour();
        x.draw('g', 0, 0, 12, 1);
        x.draw('c', 0, 0, 12, 9);
        x.draw('g', 0, 0, 1, 1);
        for (int row = 1; row < 9; row += 2) {
            x.draw('.', row % 4 == 1 ? 0 : 1, row, 11, 1);
        }
        Check.same("filled in step 25", x.filledIn(0, 3), 25);
        Check.same("filled in step 63", x.filledIn(11, 8), 63);
        Check.same("just not late", x.heatAt(0, 3, 1201, 0), 1151);
        Check.same("1150", x.heatAt(0, 3, 1200, 0), 1150);
        Check.same("not below", x.heatAt(0, 4, 1200, 0), 1150);
        Check.same("never below", x.heatAt(11, 8, 1200, 0), 1150);
        Check.same("as hot as it was filled", x.heatAt(11, 8, 1300, 0), 1300 - 2 * 63);
        Naive naive = Naive.of(x);
        compareFreezing(x, naive, 1200, 3);
    }

    private static void promises11And12Wrong() {
        Ironpour x = new Ironpour();
        x.draw('g', 5, 0, 1, 4);
        x.draw('c', 3, 4, 5, 3);
        int[][] noCells = {{-1, 0}, {12, 0}, {0, -1}, {0, 9}, {Integer.MIN_VALUE, 3}, {3, Integer.MAX_VALUE}};
        for (int[] place : noCells) {
            Check.refused(x, "frozenIn", OUTSIDE, () -> x.frozenIn(place[0], place[1], 1300));
            Check.refused(x, "frozenIn, all wrong", OUTSIDE, () -> x.frozenIn(place[0], place[1], 1));
            Check.refused(x, "heatAt", OUTSIDE, () -> x.heatAt(place[0], place[1], 1300, 1));
            Check.refused(x, "heatAt, all wrong", OUTSIDE, () -> x.heatAt(place[0], place[1], 1, -1));
            Check.refused(x, "isFed", OUTSIDE, () -> x.isFed(place[0], place[1], 1300));
            Check.refused(x, "isFed, all wrong", OUTSIDE, () -> x.isFed(place[0], place[1], 1));
        }
        for (int heat : NO_HEATS) {
            Check.refused(x, "frozenIn at " + heat, ILLEGAL, () -> x.frozenIn(5, 0, heat));
            Check.refused(x, "heatAt at " + heat, ILLEGAL, () -> x.heatAt(5, 0, heat, 0));
            Check.refused(x, "isFed at " + heat, ILLEGAL, () -> x.isFed(5, 0, heat));
        }
        for (int step : new int[] {-1, 401, Integer.MIN_VALUE, Integer.MAX_VALUE}) {
            Check.refused(x, "heatAt behind " + step, ILLEGAL, () -> x.heatAt(5, 0, 1300, step));
        }
        Check.yes("1200 is a heat", x.frozenIn(5, 0, 1200) > 0);
        Check.yes("1500 is a heat", x.frozenIn(5, 0, 1500) > 0);
        Check.yes("behind 400 steps all is cold", x.heatAt(5, 5, 1500, 400) < 100);
    }

    /** Feeders on top of a bar, and a gate from which metal runs through them. */
    private static Ironpour fedBar() {
        Ironpour x = new Ironpour();
        x.draw('g', 4, 0, 3, 1);
        x.draw('r', 4, 1, 3, 4);
        x.draw('c', 5, 5, 1, 1);
        return x;
    }

    private static void promise13IsFed() {
        Ironpour x = fedBar();
        Check.yes("the casting", x.isFed(5, 5, 1400));
        Check.yes("a filled feeder", x.isFed(4, 4, 1400));
        Check.yes("a gate", x.isFed(4, 0, 1400));
        Check.no("sand", x.isFed(0, 0, 1400));
        x.draw('r', 10, 7, 1, 1);
        Check.no("a feeder that is not filled", x.isFed(10, 7, 1400));
        x.draw('c', 4, 5, 3, 1);
        x.draw('c', 3, 6, 5, 3);
        Check.no("what freezes later than the feeder's cells", x.isFed(5, 7, 1400));
    }

    /** All of casting round one feeder that freezes last: it feeds 10 cells, the first ones come to. */
    private static void promises14And15Shrunk() {
        Ironpour x = new Ironpour();
        x.draw('c', 0, 0, 12, 9);
        x.draw('g', 0, 0, 12, 1);
        x.draw('r', 5, 4, 1, 1);
        Check.same("one feeder feeds ten", x.shrunk(1400), 96 - 1 - 10);
        Check.same("or without end", x.shrunkAnew(1400), 0);
        Check.yes("first above", x.isFed(5, 3, 1400));
        Check.yes("then left", x.isFed(4, 4, 1400));
        x.draw('c', 5, 4, 1, 1);
        Check.same("no feeder", x.shrunk(1400), 96);
        Check.same("no feeder", x.shrunkAnew(1400), 96);
        x.draw('.', 0, 1, 12, 1);
        Check.same("nothing filled is not shrunk", x.shrunk(1400), 0);
        Check.same("nothing filled is not shrunk", x.shrunkAnew(1400), 0);
        for (int heat : NO_HEATS) {
            Check.refused(x, "shrunk", ILLEGAL, () -> x.shrunk(heat));
            Check.refused(x, "shrunkAnew", ILLEGAL, () -> x.shrunkAnew(heat));
        }
    }

    private static void promise16LastPlace() {
        Ironpour x = new Ironpour();
        Check.refused(x, "lastPlace of sand", NONE, () -> x.lastPlace(1400));
        x.draw('c', 0, 3, 12, 1);
        Check.refused(x, "lastPlace, nothing filled", NONE, () -> x.lastPlace(1400));
        x.draw('g', 2, 0, 1, 3);
        x.draw('.', 0, 3, 12, 1);
        x.draw('c', 1, 3, 3, 3);
        x.draw('r', 1, 6, 4, 3);
        Check.same("inside, though feeders freeze later", x.lastPlace(1400), latest(x, 1400));
        x.draw('.', 0, 0, 12, 9);
        x.draw('g', 5, 0, 1, 1);
        x.draw('c', 4, 0, 1, 1);
        x.draw('c', 6, 0, 1, 1);
        Check.same("as late on both sides", x.frozenIn(4, 0, 1400), x.frozenIn(6, 0, 1400));
        Check.same("of several the first", x.lastPlace(1400), 4);
        for (int heat : NO_HEATS) {
            Check.refused(x, "lastPlace", ILLEGAL, () -> x.lastPlace(heat));
        }
        Ironpour empty = new Ironpour();
        Check.refused(empty, "lastPlace, both wrong", ILLEGAL, () -> empty.lastPlace(1199));
    }

    private static int latest(Ironpour x, int heat) {
        int place = -1;
        int latest = -1;
        for (int cell = 0; cell < 108; cell++) {
            int frozen = x.frozenIn(cell % 12, cell / 12, heat);
            if (x.cell(cell % 12, cell / 12) == 'c' && frozen > latest) {
                latest = frozen;
                place = cell;
            }
        }
        return place;
    }

    private static void promise17BestFeeder() {
        Ironpour x = new Ironpour();
        Check.refused(x, "bestFeeder of sand", NONE, () -> x.bestFeeder(1400));
        x.draw('g', 5, 0, 3, 1);
        x.draw('c', 5, 1, 1, 1);
        Check.same("shrunk without a feeder", x.shrunk(1400), 1);
        Check.yes("one is found", x.bestFeeder(1400) >= 0);
        int place = x.bestFeeder(1400);
        Check.same("the pattern stays", x.cell(place % 12, place / 12), '.');
        Check.same("and what is known of it", x.shrunk(1400), 1);
        x.draw('r', place % 12, place / 12, 1, 1);
        Check.same("fewer are shrunk with it", x.shrunk(1400), 0);
        Check.refused(x, "bestFeeder, none shrunk", NONE, () -> x.bestFeeder(1400));
        x.draw('c', 0, 1, 12, 8);
        Check.refused(x, "bestFeeder without room", NONE, () -> x.bestFeeder(1400));
        for (int heat : NO_HEATS) {
            Check.refused(x, "bestFeeder, both wrong", ILLEGAL, () -> x.bestFeeder(heat));
        }
        Random random = new Random(17);
        int found = 0;
        for (int run = 0; run < 40; run++) {
            Ironpour works = new Ironpour();
            Naive naive = Naive.random(random, works);
            int due = naive.bestFeeder(1350);
            found += due >= 0 ? 1 : 0;
            if (due < 0) {
                Check.refused(works, "bestFeeder of run " + run, NONE, () -> works.bestFeeder(1350));
            } else {
                Check.same("bestFeeder of run " + run, works.bestFeeder(1350), due);
            }
        }
        Check.yes("some runs have one", found > 5);
    }

    private static void comparedWithNaive() {
        Random random = new Random(13);
        int limited = 0;
        for (int run = 0; run < 150; run++) {
            Ironpour x = new Ironpour();
            Naive naive = Naive.random(random, x);
            int heat = 1200 + random.nextInt(301);
            int step = random.nextBoolean() ? random.nextInt(30) : random.nextInt(401);
            compareFreezing(x, naive, heat, step);
            limited += x.shrunk(heat) > x.shrunkAnew(heat) ? 1 : 0;
        }
        Check.yes("in some runs the feeders do not hold enough", limited > 3);
    }

    private static void compareFreezing(Ironpour x, Naive naive, int heat, int step) {
        naive.fill();
        int[][] heats = naive.freeze(heat, step);
        naive.feed();
        for (int cell = 0; cell < 108; cell++) {
            int column = cell % 12;
            int row = cell / 12;
            String what = column + " " + row + " at " + heat;
            Check.same("frozenIn " + what, x.frozenIn(column, row, heat), naive.frozenIn(column, row));
            Check.same("heatAt " + what, x.heatAt(column, row, heat, step), heats[row][column]);
            Check.same("isFed " + what, x.isFed(column, row, heat) ? 1 : 0, naive.isFed(column, row) ? 1 : 0);
        }
        Check.same("shrunk", x.shrunk(heat), naive.shrunk());
        Check.same("shrunkAnew", x.shrunkAnew(heat), naive.shrunkAnew());
        if (naive.lastPlace() >= 0) {
            Check.same("lastPlace", x.lastPlace(heat), naive.lastPlace());
        } else {
            Check.refused(x, "lastPlace", NONE, () -> x.lastPlace(heat));
        }
    }

    /** The first cell by rows and columns is 0, which must not be taken for none. */
    private static void inTheFirstCorner() {
        Ironpour x = new Ironpour();
        x.draw('g', 1, 0, 1, 1);
        x.draw('c', 0, 0, 1, 1);
        Check.same("lastPlace", x.lastPlace(1400), 0);
        Check.same("shrunk", x.shrunk(1400), 1);
        Check.same("shrunkAnew", x.shrunkAnew(1400), 1);
        x.draw('o', 1, 1, 1, 1);
        x.draw('o', 0, 2, 1, 1);
        Check.same("a place beside the first cell alone", x.bestFeeder(1400), 12);
        x.draw('r', 0, 1, 1, 1);
        Check.yes("isFed", x.isFed(0, 0, 1400));
        Check.same("shrunk", x.shrunk(1400), 0);
        Check.same("shrunkAnew", x.shrunkAnew(1400), 0);
        x.draw('.', 0, 0, 12, 9);
        x.draw('g', 1, 0, 1, 1);
        x.draw('r', 0, 0, 1, 1);
        x.draw('c', 0, 1, 1, 1);
        x.draw('k', 0, 2, 1, 1);
        Check.yes("isFed out of the corner", x.isFed(0, 1, 1400));
        Check.same("shrunk", x.shrunk(1400), 0);
        Check.same("shrunkAnew", x.shrunkAnew(1400), 0);
        x.draw('.', 0, 0, 12, 9);
        x.draw('g', 2, 0, 1, 1);
        x.draw('c', 1, 0, 1, 1);
        x.draw('k', 1, 1, 1, 1);
        Check.same("a place in the corner", x.bestFeeder(1400), 0);
    }

    private static void upTo400Steps() {
        Ironpour x = new Ironpour();
        x.draw('o', 0, 0, 12, 9);
        x.draw('c', 1, 1, 10, 7);
        x.draw('g', 5, 0, 1, 1);
        Naive naive = Naive.of(x);
        naive.fill();
        int changed = 0;
        for (int step : new int[] {391, 399, 400}) {
            int[][] heats = naive.freeze(1500, step);
            for (int cell = 0; cell < 108; cell++) {
                int got = x.heatAt(cell % 12, cell / 12, 1500, step);
                Check.same("heatAt behind " + step, got, heats[cell / 12][cell % 12]);
                changed += got != x.heatAt(cell % 12, cell / 12, 1500, step - 1) ? 1 : 0;
            }
        }
        Check.yes("some cells become colder still", changed > 0);
    }

    /** What is kept of one pattern and heat must not be answered for another one. */
    private static void drawingChangesWhatWasKnown() {
        Random random = new Random(19);
        Ironpour x = new Ironpour();
        for (int run = 0; run < 60; run++) {
            char kind = ".ccrgok".charAt(random.nextInt(7));
            int column = random.nextInt(12);
            int row = kind == 'g' ? 0 : random.nextInt(9);
            x.draw(kind, column, row, 1 + random.nextInt(12 - column), 1 + random.nextInt(9 - row));
            Naive naive = Naive.of(x);
            compareFreezing(x, naive, 1200 + 100 * random.nextInt(4), random.nextInt(20));
        }
    }
}
