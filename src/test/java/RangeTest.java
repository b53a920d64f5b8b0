import java.util.NoSuchElementException;
import java.util.function.Supplier;

/**
 * Each number and each letter that a call takes: the last one that is allowed and the first one that is not, on both
 * sides. What is allowed answers; what is not is refused, and changes nothing.
 */
final class RangeTest {
    private static final Class<IllegalArgumentException> ILLEGAL = IllegalArgumentException.class;
    private static final Class<IndexOutOfBoundsException> OUTSIDE = IndexOutOfBoundsException.class;
    private static final Class<NoSuchElementException> NONE = NoSuchElementException.class;

    /** A call with the number that is tried. */
    private interface NumberCall {
        void with(Ironpour works, int number);
    }

    /** A call with the letter that is tried. */
    private interface LetterCall {
        void with(Ironpour works, char letter);
    }

    public static void main(String[] arguments) {
        cellsOfThePattern();
        promise2Boxes();
        promise4Part();
        heatsAndSteps();
        promises18And20And22();
        promise23Amounts();
        promises25To28();
        promise33Contents();
        promise33Prices();
        promise36Index();
        promises39To46Castings();
        lettersOfPatternAndSand();
        lettersOfMetal();
        lettersOfCastings();
        Check.end("RangeTest");
    }

    private static void range(String what, int least, int most, Class<? extends RuntimeException> due,
            Supplier<Ironpour> maker, NumberCall call) {
        for (int number : new int[] {least, Math.min(most, least + 1), Math.max(least, most - 1), most}) {
            Ironpour works = maker.get();
            try {
                call.with(works, number);
                Check.yes(what + " of " + number + " answers", true);
            } catch (RuntimeException thrown) {
                Check.yes(what + " of " + number + " answers, not " + thrown, false);
            }
        }
        refusedBeyond(what, least, most, due, maker.get(), call);
    }

    private static void refusedBeyond(String what, int least, int most, Class<? extends RuntimeException> due,
            Ironpour works, NumberCall call) {
        for (int number : new int[] {least - 1, most + 1, least - 256, most + 256, least - 65536, most + 65536, ~least,
            Integer.MIN_VALUE, Integer.MIN_VALUE + least, Integer.MAX_VALUE, Integer.MAX_VALUE - most}) {
            if (number < least || number > most) {
                Check.refused(works, what + " of " + number, due, () -> call.with(works, number));
            }
        }
    }

    /** Tries all letters there are. */
    private static void letters(String what, String allowed, Class<? extends RuntimeException> due,
            Supplier<Ironpour> maker, LetterCall call) {
        Ironpour works = maker.get();
        String before = Snapshot.of(works);
        int answered = 0;
        for (int number = 0; number <= Character.MAX_VALUE; number++) {
            char letter = (char) number;
            if (allowed.indexOf(letter) >= 0) {
                call.with(maker.get(), letter);
                answered++;
                continue;
            }
            try {
                call.with(works, letter);
                Check.yes(what + " of letter " + number + " throws", false);
            } catch (RuntimeException thrown) {
                Check.yes(what + " of letter " + number + " throws " + thrown, thrown.getClass() == due);
            }
        }
        Check.same(what + ": letters that are allowed", answered, allowed.length());
        Check.same("the works behind all wrong letters of " + what, Snapshot.of(works), before);
    }

    /** A casting without feeder, shrunk at any heat, with room for one. */
    private static Ironpour shrinking() {
        Ironpour x = new Ironpour();
        x.draw('g', 5, 0, 3, 1);
        x.draw('c', 5, 1, 1, 1);
        return x;
    }

    private static void cellsOfThePattern() {
        range("promise 3, cell's column", 0, 11, OUTSIDE, RangeTest::shrinking, (x, n) -> x.cell(n, 8));
        range("promise 3, cell's row", 0, 8, OUTSIDE, RangeTest::shrinking, (x, n) -> x.cell(11, n));
        range("promise 9, filledIn's column", 0, 11, OUTSIDE, RangeTest::shrinking, (x, n) -> x.filledIn(n, 0));
        range("promise 9, filledIn's row", 0, 8, OUTSIDE, RangeTest::shrinking, (x, n) -> x.filledIn(0, n));
        range("promise 11, frozenIn's column", 0, 11, OUTSIDE, RangeTest::shrinking, (x, n) -> x.frozenIn(n, 8, 1300));
        range("promise 11, frozenIn's row", 0, 8, OUTSIDE, RangeTest::shrinking, (x, n) -> x.frozenIn(11, n, 1300));
        range("promise 12, heatAt's column", 0, 11, OUTSIDE, RangeTest::shrinking, (x, n) -> x.heatAt(n, 8, 1300, 1));
        range("promise 12, heatAt's row", 0, 8, OUTSIDE, RangeTest::shrinking, (x, n) -> x.heatAt(0, n, 1300, 1));
        range("promise 13, isFed's column", 0, 11, OUTSIDE, RangeTest::shrinking, (x, n) -> x.isFed(n, 0, 1300));
        range("promise 13, isFed's row", 0, 8, OUTSIDE, RangeTest::shrinking, (x, n) -> x.isFed(11, n, 1300));
    }

    /** Every place and every size: those that reach beyond the pattern by one are refused. */
    private static void promise2Boxes() {
        range("promise 2, draw's column", 0, 11, ILLEGAL, Ironpour::new, (x, n) -> x.draw('c', n, 8, 1, 1));
        range("promise 2, draw's row", 0, 8, ILLEGAL, Ironpour::new, (x, n) -> x.draw('c', 11, n, 1, 1));
        for (int place = 0; place < 12; place++) {
            int at = place;
            range("promise 2, width at " + at, 1, 12 - at, ILLEGAL, Ironpour::new, (x, n) -> x.draw('c', at, 0, n, 9));
            if (at < 9) {
                range("promise 2, height at " + at, 1, 9 - at, ILLEGAL, Ironpour::new,
                        (x, n) -> x.draw('c', 0, at, 12, n));
            }
        }
        for (int x = 0; x < 12; x++) {
            for (int y = 0; y < 9; y++) {
                Ironpour works = new Ironpour();
                Check.same("promise 2, up to the corner", works.draw('r', x, y, 12 - x, 9 - y), (12 - x) * (9 - y));
                Check.same("promise 2, its first cell", works.cell(x, y), 'r');
                Check.same("promise 2, the last one", works.cell(11, 8), 'r');
                Check.same("promise 2, the one ahead", works.cell(0, 0), x == 0 && y == 0 ? 'r' : '.');
            }
        }
    }

    private static void promise4Part() {
        range("promise 4, part", 1, 8, ILLEGAL, RangeTest::shrinking, (x, n) -> x.part(n));
        for (int row = 1; row <= 8; row++) {
            Ironpour x = new Ironpour();
            Check.same("promise 4, at first", x.part(row), 4);
            Check.same("promise 4, the row before", x.part(9 - row), row);
        }
    }

    private static void heatsAndSteps() {
        range("promise 11, heat", 1200, 1500, ILLEGAL, RangeTest::shrinking, (x, n) -> x.frozenIn(5, 0, n));
        range("promise 12, heat", 1200, 1500, ILLEGAL, RangeTest::shrinking, (x, n) -> x.heatAt(5, 0, n, 1));
        range("promise 12, step", 0, 400, ILLEGAL, RangeTest::shrinking, (x, n) -> x.heatAt(5, 0, 1300, n));
        range("promise 13, heat", 1200, 1500, ILLEGAL, RangeTest::shrinking, (x, n) -> x.isFed(5, 0, n));
        range("promise 14, heat", 1200, 1500, ILLEGAL, RangeTest::shrinking, (x, n) -> x.shrunk(n));
        range("promise 15, heat", 1200, 1500, ILLEGAL, RangeTest::shrinking, (x, n) -> x.shrunkAnew(n));
        range("promise 16, heat", 1200, 1500, ILLEGAL, RangeTest::shrinking, (x, n) -> x.lastPlace(n));
        range("promise 17, heat", 1200, 1500, ILLEGAL, RangeTest::shrinking, (x, n) -> x.bestFeeder(n));
    }

    private static void promises18And20And22() {
        range("promise 18, clay", 0, 20, ILLEGAL, Ironpour::new, (x, n) -> x.mill(n, 20, 20, 50));
        range("promise 18, water", 0, 20, ILLEGAL, Ironpour::new, (x, n) -> x.mill(20, n, 20, 50));
        range("promise 18, coal", 0, 20, ILLEGAL, Ironpour::new, (x, n) -> x.mill(20, 20, n, 50));
        range("promise 18, fresh sand", 0, 50, ILLEGAL, Ironpour::new, (x, n) -> x.mill(0, 0, 0, n));
        range("promise 20, count", 1, 10, ILLEGAL, RangeTest::withCores, (x, n) -> x.makeCores(n, 24));
        range("promise 20, cure", 1, 24, ILLEGAL, RangeTest::withCores, (x, n) -> x.makeCores(10, n));
        range("promise 22, hours", 1, 48, ILLEGAL, RangeTest::withCores, (x, n) -> x.hours(n));
    }

    /** A lot that is good in an hour, and one that goes in an hour. */
    private static Ironpour withCores() {
        Ironpour x = new Ironpour();
        x.makeCores(3, 1);
        x.hours(48);
        x.hours(25);
        x.makeCores(4, 1);
        return x;
    }

    /** A thousand kilograms in each pool, and as much room in the furnace. */
    private static Ironpour withPools() {
        Ironpour x = new Ironpour();
        for (int i = 0; i < 2; i++) {
            x.charge('p', 1000);
            x.tap(500);
            x.pig();
            x.tap(500);
            x.treat(20);
            x.pig();
        }
        return x;
    }

    private static void promise23Amounts() {
        for (char kind : "psfkgd".toCharArray()) {
            range("promise 23, amount of " + kind, 1, 1000, ILLEGAL, RangeTest::withPools, (x, n) -> x.charge(kind, n));
        }
    }

    private static Ironpour withFurnace() {
        Ironpour x = new Ironpour();
        x.charge('p', 600);
        return x;
    }

    private static Ironpour withLadle() {
        Ironpour x = withFurnace();
        x.draw('g', 5, 0, 1, 1);
        x.draw('c', 5, 1, 1, 1);
        x.mould();
        x.tap(500);
        return x;
    }

    private static void promises25To28() {
        range("promise 25, minutes", 1, 120, ILLEGAL, RangeTest::withFurnace, (x, n) -> x.hold(n));
        range("promise 26, amount", 1, 500, ILLEGAL, RangeTest::withFurnace, (x, n) -> x.tap(n));
        range("promise 27, magnesium", 1, 100, ILLEGAL, RangeTest::withLadle, (x, n) -> x.treat(n));
        range("promise 28, minutes", 1, 60, ILLEGAL, RangeTest::withLadle, (x, n) -> x.minutes(n));
    }

    /** Whether it answers or finds none, a call with contents in the range is not refused as a wrong one. */
    private static void promise33Contents() {
        Ironpour x = new Ironpour();
        for (int number : new int[] {0, 1, 419, 420}) {
            Check.yes("least " + number, x.leastCost(number, 450, 0, 1, 1, 1) == 100);
        }
        for (int number : new int[] {421, 449, 450}) {
            Check.refused(x, "none with " + number, NONE, () -> x.leastCost(number, 450, 0, 1, 1, 1));
        }
        for (int number : new int[] {20, 449, 450}) {
            Check.yes("most " + number, x.leastCost(0, number, 0, 1, 1, 1) == 100);
        }
        for (int number : new int[] {0, 1, 17}) {
            Check.refused(x, "none up to " + number, NONE, () -> x.leastCost(0, number, 0, 1, 1, 1));
        }
        for (int number : new int[] {0, 1, 165}) {
            Check.yes("silicon " + number, x.leastCost(0, 450, number, 1, 1, 1) == 100);
        }
        for (int number : new int[] {166, 449, 450}) {
            Check.refused(x, "none with silicon " + number, NONE, () -> x.leastCost(0, 450, number, 1, 1, 1));
        }
        for (int number = 0; number <= 450; number++) {
            int both = number;
            if (number > 0) {
                Check.refused(x, "the most less by one", ILLEGAL, () -> x.leastCost(both, both - 1, 0, 1, 1, 1));
            }
            try {
                Check.same("the most as the least", x.leastCost(both, both, 0, 1, 1, 1), 100);
            } catch (RuntimeException thrown) {
                Check.yes("there is none of " + both, thrown.getClass() == NONE);
            }
        }
        refusedBeyond("promise 33, least", 0, 450, ILLEGAL, x, (y, n) -> y.leastCost(n, 450, 0, 1, 1, 1));
        refusedBeyond("promise 33, most", 0, 450, ILLEGAL, x, (y, n) -> y.leastCost(0, n, 0, 1, 1, 1));
        refusedBeyond("promise 33, both", 0, 450, ILLEGAL, x, (y, n) -> y.leastCost(n, n, 0, 1, 1, 1));
        refusedBeyond("promise 33, silicon", 0, 450, ILLEGAL, x, (y, n) -> y.leastCost(0, 450, n, 1, 1, 1));
    }

    private static void promise33Prices() {
        range("promise 33, pig", 1, 1000, ILLEGAL, Ironpour::new, (x, n) -> x.leastCost(0, 450, 0, n, 1000, 1000));
        range("promise 33, scrap", 1, 1000, ILLEGAL, Ironpour::new, (x, n) -> x.leastCost(0, 450, 0, 1000, n, 1000));
        range("promise 33, alloy", 1, 1000, ILLEGAL, Ironpour::new, (x, n) -> x.leastCost(0, 450, 0, 1000, 1000, n));
    }

    private static Ironpour withMoulds(int number) {
        Ironpour x = Yard.sound();
        for (int i = 0; i < number; i++) {
            x.mould();
        }
        return x;
    }

    private static void promise36Index() {
        Ironpour none = Yard.sound();
        Check.refused(none, "promise 36, no mould waits", NONE, () -> none.waiting(0));
        for (int number = 1; number <= 10; number++) {
            int moulds = number;
            range("promise 36, index of " + moulds, 0, moulds - 1, NONE, () -> withMoulds(moulds),
                    (x, n) -> x.waiting(n));
        }
    }

    private static Ironpour withCastings(int number) {
        Ironpour x = Yard.sound();
        for (int i = 0; i < number; i++) {
            x.mould();
            if (x.ladle('w') < 32) {
                Yard.tapPig(x, 500);
            }
            x.pour();
        }
        return x;
    }

    private static void promises39To46Castings() {
        for (int number : new int[] {1, 2, 30}) {
            int castings = number;
            Supplier<Ironpour> maker = () -> withCastings(castings);
            int last = castings - 1;
            range("promise 39, alloy", 0, last, OUTSIDE, maker, (x, n) -> x.alloy(n));
            range("promise 40, faults", 0, last, OUTSIDE, maker, (x, n) -> x.faults(n));
            range("promise 41, shrunkIn", 0, last, OUTSIDE, maker, (x, n) -> x.shrunkIn(n));
            range("promise 42, has", 0, last, OUTSIDE, maker, (x, n) -> x.has(n, 'c'));
            range("promise 43, bar", 0, last, OUTSIDE, maker, (x, n) -> x.bar(n));
            range("promise 44, weld", 0, last, OUTSIDE, maker, (x, n) -> x.weld(n));
            range("promise 45, deliver", 0, last, OUTSIDE, maker, (x, n) -> x.deliver(n));
            range("promise 46, breakUp", 0, last, OUTSIDE, maker, (x, n) -> x.breakUp(n));
        }
        Ironpour none = withMoulds(1);
        Yard.tapPig(none, 100);
        Check.refused(none, "promise 39, no casting", OUTSIDE, () -> none.alloy(0));
        Check.refused(none, "promise 40, no casting", OUTSIDE, () -> none.faults(0));
        Check.refused(none, "promise 41, no casting", OUTSIDE, () -> none.shrunkIn(0));
        Check.refused(none, "promise 42, no casting", OUTSIDE, () -> none.has(0, 'c'));
        Check.refused(none, "promise 43, no casting", OUTSIDE, () -> none.bar(0));
        Check.refused(none, "promise 44, no casting", OUTSIDE, () -> none.weld(0));
        Check.refused(none, "promise 45, no casting", OUTSIDE, () -> none.deliver(0));
        Check.refused(none, "promise 46, no casting", OUTSIDE, () -> none.breakUp(0));
    }

    private static void lettersOfPatternAndSand() {
        letters("promise 2, draw", ".crgok", ILLEGAL, Ironpour::new, (x, c) -> x.draw(c, 3, 3, 2, 2));
        letters("promise 19, sand", "cwkfbsd", ILLEGAL, Ironpour::new, (x, c) -> x.sand(c));
    }

    private static void lettersOfMetal() {
        letters("promise 23, charge", "psfkgd", ILLEGAL, RangeTest::withPools, (x, c) -> x.charge(c, 1));
        letters("promise 24, furnace", "csmp", ILLEGAL, RangeTest::withFurnace, (x, c) -> x.furnace(c));
        letters("promise 29, ladle", "whm", ILLEGAL, RangeTest::withLadle, (x, c) -> x.ladle(c));
        letters("promise 29, empty ladle", "whm", ILLEGAL, Ironpour::new, (x, c) -> x.ladle(c));
        letters("promise 31, pool", "gd", ILLEGAL, RangeTest::withPools, (x, c) -> x.pool(c));
        letters("promise 31, empty pool", "gd", ILLEGAL, Ironpour::new, (x, c) -> x.pool(c));
        letters("promise 32, poolHas' pool", "gd", ILLEGAL, RangeTest::withPools, (x, c) -> x.poolHas(c, 's'));
        letters("promise 32, poolHas' element", "csmp", ILLEGAL, RangeTest::withPools, (x, c) -> x.poolHas('d', c));
        letters("promise 34, cheapest", "psf", ILLEGAL, RangeTest::withRecipe, (x, c) -> x.cheapest(c));
    }

    private static Ironpour withRecipe() {
        Ironpour x = new Ironpour();
        x.leastCost(300, 380, 100, 100, 50, 400);
        return x;
    }

    private static void lettersOfCastings() {
        letters("promise 42, has", "csmp", ILLEGAL, () -> withCastings(1), (x, c) -> x.has(0, c));
    }
}
