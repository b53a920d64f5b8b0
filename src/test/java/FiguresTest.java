import java.util.NoSuchElementException;

/** Promises 47 to 51: what the castings tell together. */
final class FiguresTest {
    private static final Class<NoSuchElementException> NONE = NoSuchElementException.class;

    public static void main(String[] arguments) {
        promise47Worst();
        promise47WeldedOnes();
        promise48Delivered();
        promise49GoodShare();
        promise50MeanBar();
        promise51IsSound();
        promise51SeesWhatIsWrong();
        Check.end("FiguresTest");
    }

    private static Ironpour with(int... faults) {
        Ironpour x = new Ironpour();
        for (int fault : faults) {
            Yard.cast(x, fault);
        }
        return x;
    }

    private static void worstIs(char due, int... faults) {
        Check.same("worst of " + java.util.Arrays.toString(faults), with(faults).worst(), due);
    }

    private static void promise47Worst() {
        Ironpour empty = new Ironpour();
        Check.refused(empty, "worst of none", NONE, empty::worst);
        Ironpour good = with(0, 0);
        Check.refused(good, "worst of good ones", NONE, good::worst);
        worstIs('s', 4);
        worstIs('s', 8);
        worstIs('m', 32);
        worstIs('p', 2);
        worstIs('t', 1);
        worstIs('t', 16);
        worstIs('s', 16, 2, 32, 8);
        worstIs('m', 1, 2, 32);
        worstIs('p', 16, 2);
        worstIs('t', 4, 16, 32, 1, 2);
        worstIs('p', 2, 32, 2, 8, 1);
        worstIs('m', 32, 8, 32);
        worstIs('m', 12, 32, 32);
        worstIs('p', 17, 2, 2);
        worstIs('t', 17, 0, 1, 2);
        worstIs('s', 8, 4, 32, 0);
    }

    private static void promise47WeldedOnes() {
        Ironpour x = with(4, 2);
        Check.same("worst", x.worst(), 's');
        x.weld(0);
        Check.same("a welded one does not count", x.worst(), 'p');
        x.breakUp(1);
        Check.same("a broken up one does", x.worst(), 'p');
        Ironpour both = with(12, 2);
        both.weld(0);
        Check.same("it is still blown", both.worst(), 's');
        Ironpour alone = with(4);
        alone.weld(0);
        Check.refused(alone, "no faults left", NONE, alone::worst);
    }

    private static void promise48Delivered() {
        Ironpour x = with(0, 2, 0);
        Check.same("delivered", x.delivered(), 0);
        x.deliver(0);
        Check.same("delivered", x.delivered(), 32);
        x.deliver(1);
        Check.same("not the faulty one", x.delivered(), 32);
        x.deliver(2);
        Check.same("delivered", x.delivered(), 64);
        x.breakUp(1);
        Check.same("delivered", x.delivered(), 64);
    }

    private static void promise49GoodShare() {
        Ironpour x = new Ironpour();
        Check.refused(x, "nothing poured", ArithmeticException.class, x::goodShare);
        Yard.cast(x, 0);
        Check.same("none delivered", x.goodShare(), 0f);
        Yard.cast(x, 0);
        Yard.cast(x, 0);
        x.deliver(0);
        Check.same("a third", x.goodShare(), 32f / 96f);
        Yard.cast(x, 2);
        Check.same("short ones weigh what was poured", x.goodShare(), 32f / 106f);
        x.breakUp(3);
        Check.same("broken up ones were poured", x.goodShare(), 32f / 106f);
        x.deliver(1);
        x.deliver(2);
        Check.same("more", x.goodShare(), 96f / 106f);
    }

    private static void promise50MeanBar() {
        Ironpour x = new Ironpour();
        Check.refused(x, "no castings", ArithmeticException.class, x::meanBar);
        Yard.cast(x, 0);
        Check.same("one", x.meanBar(), 194.0);
        Yard.cast(x, 4);
        Check.same("two", x.meanBar(), (194 + 164) / 2.0);
        Yard.castDuctile(x, 20);
        Check.same("three", x.meanBar(), (194 + 164 + 440) / 3.0);
        x.breakUp(1);
        x.deliver(0);
        Check.same("of all castings", x.meanBar(), (194 + 164 + 440) / 3.0);
        x.deliver(2);
        Yard.cast(x, 4);
        Check.same("four", x.meanBar(), (194 + 164 + 440 + 164) / 4.0);
        x.weld(3);
        Check.same("welded", x.meanBar(), (194 + 164 + 440 + 194) / 4.0);
    }

    /** Through all ways that iron can take, with amounts in which much is cut. */
    private static void promise51IsSound() {
        Ironpour x = Yard.sound();
        Check.yes("a new one", x.isSound());
        x.charge('p', 333);
        Check.yes("charged", x.isSound());
        x.charge('s', 77);
        x.charge('f', 7);
        x.charge('k', 3);
        Check.yes("of all kinds", x.isSound());
        x.hold(119);
        Check.yes("held", x.isSound());
        x.tap(101);
        Check.yes("tapped", x.isSound());
        x.treat(20);
        x.mould();
        x.mould();
        x.pour();
        Check.yes("poured", x.isSound());
        x.deliver(0);
        Check.yes("delivered", x.isSound());
        x.pour();
        x.breakUp(1);
        Check.yes("broken up", x.isSound());
        x.pig();
        Check.yes("pigged", x.isSound());
        x.charge('d', 13);
        Check.yes("returned", x.isSound());
        x.hold(3);
        x.tap(17);
        x.pig();
        x.charge('g', 11);
        Check.yes("returned", x.isSound());
    }

    /** No call makes a works unsound, so what it holds is changed: each metal, the furnace's books, and the pattern. */
    private static void promise51SeesWhatIsWrong() {
        Ironpour x = Yard.sound();
        x.charge('p', 333);
        x.hold(100);
        x.mould();
        x.mould();
        x.tap(100);
        x.pour();
        x.pour();
        x.deliver(0);
        Object furnace = Inside.at(x, "hearth");
        Object[] metals = {Inside.at(furnace, "bath"), Inside.at(x, "bucket", "content"), Inside.at(x, "greyPool"),
            Inside.at(x, "ductilePool"), Inside.at(castingOf(x, 0), "metal"), Inside.at(castingOf(x, 1), "metal")};
        for (Object metal : metals) {
            Inside.withAnother(metal, "iron", () -> Check.no("isSound with more iron", x.isSound()));
            seesAnother(x, (long[]) Inside.at(metal, "grams"));
        }
        Inside.withAnother(furnace, "ironFromOutside", () -> Check.no("isSound, iron charged", x.isSound()));
        for (String book : new String[] {"tenthsFromOutside", "cutTenths", "heldLoss"}) {
            seesAnother(x, (long[]) Inside.at(furnace, book));
        }
        Check.yes("isSound again", x.isSound());
        int[] filledAt = (int[]) Inside.at(x, "trial", "filledAt");
        int step = filledAt[65];
        filledAt[65] = 1;
        Check.no("isSound, filled from none ahead", x.isSound());
        filledAt[65] = step;
        Check.yes("isSound again", x.isSound());
        int[] frozenAt = (int[]) Inside.at(x, "trial", "freezing", "frozenAt");
        step = frozenAt[65];
        frozenAt[65] = 402;
        Check.no("isSound, fed by what freezes earlier", x.isSound());
        frozenAt[65] = step;
        Check.yes("isSound again", x.isSound());
    }

    private static Object castingOf(Ironpour x, int casting) {
        return ((java.util.List<?>) Inside.at(x, "allCastings")).get(casting);
    }

    private static void seesAnother(Ironpour x, long[] numbers) {
        for (int i = 0; i < numbers.length; i++) {
            numbers[i]++;
            Check.no("isSound with another number of element " + i, x.isSound());
            numbers[i]--;
        }
    }
}
