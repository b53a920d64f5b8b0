import java.util.function.Supplier;

/** All that can be asked of a works, as a text, so that two states can be compared. */
final class Snapshot {
    private static final String ELEMENTS = "csmp";

    private Snapshot() {
    }

    static String of(Ironpour works) {
        StringBuilder text = new StringBuilder();
        pattern(works, text);
        sandAndMetal(works, text);
        mouldsAndCastings(works, text);
        return text.toString();
    }

    private static void pattern(Ironpour works, StringBuilder text) {
        for (int y = 0; y < 9; y++) {
            for (int x = 0; x < 12; x++) {
                text.append(works.cell(x, y));
            }
            text.append('\n');
        }
        int parting = works.part(1);
        works.part(parting);
        add(text, "part", () -> parting);
        add(text, "undercut", works::undercut);
        add(text, "cores", works::cores);
        add(text, "loose", works::loose);
        add(text, "weight", works::weight);
        add(text, "speed", works::speed);
        add(text, "shrunk", () -> works.shrunk(1300));
    }

    private static void sandAndMetal(Ironpour works, StringBuilder text) {
        for (char what : "cwkfbsd".toCharArray()) {
            add(text, "sand " + what, () -> works.sand(what));
        }
        add(text, "goodCores", works::goodCores);
        for (char what : "whm".toCharArray()) {
            add(text, "ladle " + what, () -> works.ladle(what));
        }
        for (char kind : "psf".toCharArray()) {
            add(text, "cheapest " + kind, () -> works.cheapest(kind));
        }
        for (char pool : "gd".toCharArray()) {
            add(text, "pool " + pool, () -> works.pool(pool));
        }
        for (char element : ELEMENTS.toCharArray()) {
            add(text, "furnace " + element, () -> works.furnace(element));
            add(text, "poolHas g " + element, () -> works.poolHas('g', element));
            add(text, "poolHas d " + element, () -> works.poolHas('d', element));
        }
    }

    private static void mouldsAndCastings(Ironpour works, StringBuilder text) {
        for (int i = 0; i < 11; i++) {
            int index = i;
            add(text, "waiting " + index, () -> works.waiting(index));
        }
        add(text, "castings", works::castings);
        for (int i = 0; i < works.castings(); i++) {
            int casting = i;
            add(text, "alloy " + i, () -> works.alloy(casting));
            add(text, "faults " + i, () -> works.faults(casting));
            add(text, "shrunkIn " + i, () -> works.shrunkIn(casting));
            add(text, "bar " + i, () -> works.bar(casting));
            for (char element : ELEMENTS.toCharArray()) {
                add(text, "has " + i + element, () -> works.has(casting, element));
            }
        }
        add(text, "worst", works::worst);
        add(text, "delivered", works::delivered);
        add(text, "goodShare", works::goodShare);
        add(text, "meanBar", works::meanBar);
        add(text, "isSound", works::isSound);
    }

    private static void add(StringBuilder text, String what, Supplier<Object> call) {
        text.append(what).append(' ');
        try {
            text.append(call.get());
        } catch (RuntimeException thrown) {
            text.append(thrown.getClass().getSimpleName());
        }
        text.append('\n');
    }
}
