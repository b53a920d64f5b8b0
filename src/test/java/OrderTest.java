import java.util.NoSuchElementException;

/**
 * Calls to which several exceptions apply throw the one that is documented first. Each of these exceptions is seen
 * alone, too, so that the call is known to be wrong in each way.
 */
final class OrderTest {
    private static final Class<IllegalArgumentException> ILLEGAL = IllegalArgumentException.class;
    private static final Class<IllegalStateException> STATE = IllegalStateException.class;
    private static final Class<UnsupportedOperationException> UNSUPPORTED = UnsupportedOperationException.class;
    private static final Class<NoSuchElementException> NONE = NoSuchElementException.class;
    private static final Class<IndexOutOfBoundsException> OUTSIDE = IndexOutOfBoundsException.class;
    private static final int[] NUMBERS_WRONG_EVERYWHERE = {0, -1, 5000, Integer.MIN_VALUE, Integer.MAX_VALUE};

    public static void main(String[] arguments) {
        promises11To13CellThenHeat();
        promises16And17HeatThenNone();
        promise20NumbersThenLots();
        promise23AmountThenPoolThenFurnace();
        promise24ElementThenIron();
        promise26AmountThenLadleThenFurnace();
        promise27AmountThenLadleThenMost();
        promise32LettersThenIron();
        promise33NumbersThenNone();
        promise34KindThenNone();
        promise35PatternThenCoresThenMoulds();
        promise37MouldThenLadleThenCastings();
        promise42CastingThenElement();
        promise44CastingThenAllowedThenGone();
        promises45And46CastingThenGone();
        Check.end("OrderTest");
    }

    private static void promises11To13CellThenHeat() {
        Ironpour x = Yard.sound();
        int[][] cells = {{-1, 0}, {12, 0}, {0, -1}, {0, 9}};
        for (int[] cell : cells) {
            for (int heat : new int[] {1199, 1501}) {
                Check.refused(x, "frozenIn: cell, heat", OUTSIDE, () -> x.frozenIn(cell[0], cell[1], heat));
                Check.refused(x, "isFed: cell, heat", OUTSIDE, () -> x.isFed(cell[0], cell[1], heat));
                Check.refused(x, "heatAt: cell, heat", OUTSIDE, () -> x.heatAt(cell[0], cell[1], heat, 5));
                Check.refused(x, "heatAt: all three", OUTSIDE, () -> x.heatAt(cell[0], cell[1], heat, 401));
            }
            Check.refused(x, "heatAt: cell, step", OUTSIDE, () -> x.heatAt(cell[0], cell[1], 1300, -1));
            Check.refused(x, "heatAt: cell, step", OUTSIDE, () -> x.heatAt(cell[0], cell[1], 1300, 401));
        }
        Check.refused(x, "heatAt: heat and step", ILLEGAL, () -> x.heatAt(0, 0, 1199, 401));
    }

    private static void promises16And17HeatThenNone() {
        Ironpour sand = new Ironpour();
        Ironpour misrun = new Ironpour();
        misrun.draw('c', 2, 2, 3, 3);
        misrun.draw('g', 0, 0, 2, 1);
        Ironpour sound = Yard.sound();
        for (int heat : new int[] {1199, 1501}) {
            Check.refused(sand, "lastPlace: heat, none", ILLEGAL, () -> sand.lastPlace(heat));
            Check.refused(misrun, "lastPlace: heat, none filled", ILLEGAL, () -> misrun.lastPlace(heat));
            Check.refused(sand, "bestFeeder: heat, none", ILLEGAL, () -> sand.bestFeeder(heat));
            Check.refused(sound, "bestFeeder: heat, none better", ILLEGAL, () -> sound.bestFeeder(heat));
        }
        for (int heat : new int[] {1200, 1500}) {
            Check.refused(sand, "lastPlace: none", NONE, () -> sand.lastPlace(heat));
            Check.refused(misrun, "lastPlace: none filled", NONE, () -> misrun.lastPlace(heat));
            Check.refused(sand, "bestFeeder: none", NONE, () -> sand.bestFeeder(heat));
        }
        Check.refused(sound, "bestFeeder: none better", NONE, () -> sound.bestFeeder(1450));
    }

    private static void promise20NumbersThenLots() {
        Ironpour x = new Ironpour();
        for (int i = 0; i < 20; i++) {
            x.makeCores(1 + i % 10, 1 + i);
        }
        Check.refused(x, "makeCores: lots", STATE, () -> x.makeCores(1, 1));
        Check.refused(x, "makeCores: lots", STATE, () -> x.makeCores(10, 24));
        int[][] wrong = {{0, 1}, {11, 1}, {1, 0}, {1, 25}, {0, 25}};
        for (int[] each : wrong) {
            Check.refused(x, "makeCores: number, lots", ILLEGAL, () -> x.makeCores(each[0], each[1]));
        }
    }

    /** Pools of 10 kilograms and a full furnace. */
    private static void promise23AmountThenPoolThenFurnace() {
        Ironpour x = new Ironpour();
        x.charge('p', 1000);
        x.tap(10);
        x.pig();
        x.tap(10);
        x.treat(20);
        x.pig();
        x.charge('s', 1000);
        x.charge('s', 1000);
        Check.same("full", x.charge('s', 20), 3000);
        for (char kind : "psf".toCharArray()) {
            Check.refused(x, "charge: furnace", STATE, () -> x.charge(kind, 1));
            Check.refused(x, "charge: furnace", STATE, () -> x.charge(kind, 1000));
        }
        for (char kind : "gd".toCharArray()) {
            Check.refused(x, "charge: furnace", STATE, () -> x.charge(kind, 1));
            Check.refused(x, "charge: furnace", STATE, () -> x.charge(kind, 10));
            Check.refused(x, "charge: pool, furnace", UNSUPPORTED, () -> x.charge(kind, 11));
            Check.refused(x, "charge: pool, furnace", UNSUPPORTED, () -> x.charge(kind, 1000));
            Check.refused(x, "charge: amount, pool, furnace", ILLEGAL, () -> x.charge(kind, 1001));
        }
        for (int amount : NUMBERS_WRONG_EVERYWHERE) {
            for (char kind : "psfgd".toCharArray()) {
                Check.refused(x, "charge: amount, furnace", ILLEGAL, () -> x.charge(kind, amount));
            }
            Check.refused(x, "charge: amount of coke", ILLEGAL, () -> x.charge('k', amount));
        }
        Check.refused(x, "charge: kind, furnace", ILLEGAL, () -> x.charge('x', 1));
        Check.refused(x, "charge: kind, amount, furnace", ILLEGAL, () -> x.charge('x', 0));
        Ironpour empty = new Ironpour();
        for (char kind : "gd".toCharArray()) {
            Check.refused(empty, "charge: pool", UNSUPPORTED, () -> empty.charge(kind, 1));
            Check.refused(empty, "charge: pool", UNSUPPORTED, () -> empty.charge(kind, 1000));
            Check.refused(empty, "charge: amount, pool", ILLEGAL, () -> empty.charge(kind, 0));
            Check.refused(empty, "charge: amount, pool", ILLEGAL, () -> empty.charge(kind, 1001));
        }
    }

    private static void promise24ElementThenIron() {
        Ironpour x = new Ironpour();
        for (char element : "csmp".toCharArray()) {
            Check.refused(x, "furnace: iron", NONE, () -> x.furnace(element));
        }
        Check.refused(x, "furnace: element, iron", ILLEGAL, () -> x.furnace('x'));
        x.charge('k', 5);
        Check.refused(x, "furnace: iron, though it has carbon", NONE, () -> x.furnace('c'));
        Check.refused(x, "furnace: element, iron", ILLEGAL, () -> x.furnace('k'));
        x.charge('p', 1);
        Check.refused(x, "furnace: element", ILLEGAL, () -> x.furnace('k'));
    }

    private static void promise26AmountThenLadleThenFurnace() {
        Ironpour x = new Ironpour();
        Check.refused(x, "tap: furnace", UNSUPPORTED, () -> x.tap(1));
        for (int amount : NUMBERS_WRONG_EVERYWHERE) {
            Check.refused(x, "tap: amount, furnace", ILLEGAL, () -> x.tap(amount));
        }
        Check.refused(x, "tap: amount, furnace", ILLEGAL, () -> x.tap(501));
        x.charge('p', 600);
        x.tap(200);
        Check.refused(x, "tap: ladle", STATE, () -> x.tap(1));
        Check.refused(x, "tap: ladle", STATE, () -> x.tap(400));
        Check.refused(x, "tap: ladle, furnace", STATE, () -> x.tap(401));
        Check.refused(x, "tap: amount, ladle, furnace", ILLEGAL, () -> x.tap(501));
        Check.refused(x, "tap: amount, ladle", ILLEGAL, () -> x.tap(0));
        x.pig();
        Check.refused(x, "tap: furnace", UNSUPPORTED, () -> x.tap(401));
        x.tap(400);
        Check.refused(x, "tap: ladle, empty furnace", STATE, () -> x.tap(1));
    }

    private static void promise27AmountThenLadleThenMost() {
        Ironpour x = new Ironpour();
        Check.refused(x, "treat: ladle", STATE, () -> x.treat(1));
        Check.refused(x, "treat: ladle", STATE, () -> x.treat(100));
        for (int amount : NUMBERS_WRONG_EVERYWHERE) {
            Check.refused(x, "treat: amount, ladle", ILLEGAL, () -> x.treat(amount));
        }
        Check.refused(x, "treat: amount, ladle", ILLEGAL, () -> x.treat(101));
        x.charge('p', 100);
        x.tap(100);
        x.treat(100);
        Check.refused(x, "treat: most", UNSUPPORTED, () -> x.treat(1));
        Check.refused(x, "treat: most", UNSUPPORTED, () -> x.treat(100));
        Check.refused(x, "treat: amount, most", ILLEGAL, () -> x.treat(101));
        for (int amount : NUMBERS_WRONG_EVERYWHERE) {
            Check.refused(x, "treat: amount, most", ILLEGAL, () -> x.treat(amount));
        }
        x.pig();
        Check.refused(x, "treat: ladle, that had all it can", STATE, () -> x.treat(1));
    }

    private static void promise32LettersThenIron() {
        Ironpour x = new Ironpour();
        for (char pool : "gd".toCharArray()) {
            Check.refused(x, "poolHas: iron", NONE, () -> x.poolHas(pool, 'c'));
            Check.refused(x, "poolHas: element, iron", ILLEGAL, () -> x.poolHas(pool, 'x'));
        }
        Check.refused(x, "poolHas: pool, iron", ILLEGAL, () -> x.poolHas('p', 'c'));
        Check.refused(x, "poolHas: pool, element, iron", ILLEGAL, () -> x.poolHas('p', 'x'));
        x.charge('p', 100);
        x.tap(100);
        x.pig();
        Check.same("poolHas of the one", x.poolHas('g', 'c'), 420);
        Check.refused(x, "poolHas: iron of the other one", NONE, () -> x.poolHas('d', 'c'));
        Check.refused(x, "poolHas: pool, element", ILLEGAL, () -> x.poolHas('p', 'x'));
    }

    private static void promise33NumbersThenNone() {
        Ironpour x = new Ironpour();
        int[][] none = {{421, 450, 0, 1, 1, 1}, {0, 17, 0, 1, 1, 1}, {0, 450, 166, 1, 1, 1}};
        for (int[] a : none) {
            Check.refused(x, "leastCost: none", NONE, () -> x.leastCost(a[0], a[1], a[2], a[3], a[4], a[5]));
            for (int i = 0; i < 6; i++) {
                int which = i;
                for (int wrong : new int[] {i < 3 ? -1 : 0, i < 3 ? 451 : 1001}) {
                    int[] b = a.clone();
                    b[which] = wrong;
                    Check.refused(x, "leastCost: number " + which + ", none", ILLEGAL,
                            () -> x.leastCost(b[0], b[1], b[2], b[3], b[4], b[5]));
                }
            }
        }
        Check.refused(x, "leastCost: most below least, none", ILLEGAL, () -> x.leastCost(425, 424, 166, 1, 1, 1));
    }

    private static void promise34KindThenNone() {
        Ironpour x = new Ironpour();
        for (char kind : "psf".toCharArray()) {
            Check.refused(x, "cheapest: none", STATE, () -> x.cheapest(kind));
        }
        Check.refused(x, "cheapest: kind, none", ILLEGAL, () -> x.cheapest('k'));
        x.leastCost(0, 450, 0, 1, 1, 1);
        Check.refused(x, "cheapest: kind", ILLEGAL, () -> x.cheapest('k'));
    }

    private static void promise35PatternThenCoresThenMoulds() {
        Ironpour x = new Ironpour();
        x.draw('o', 0, 5, 2, 1);
        Check.refused(x, "mould: neither gate nor casting, cores", NONE, x::mould);
        x.draw('g', 5, 0, 1, 1);
        Check.refused(x, "mould: casting, cores", NONE, x::mould);
        x.draw('c', 5, 1, 1, 1);
        Check.refused(x, "mould: cores", UNSUPPORTED, x::mould);
        x.draw('.', 5, 0, 1, 1);
        Check.refused(x, "mould: gate, cores", NONE, x::mould);
        x.draw('g', 5, 0, 1, 1);
        x.draw('.', 0, 5, 2, 1);
        for (int i = 0; i < 10; i++) {
            x.mould();
        }
        Check.refused(x, "mould: moulds", STATE, x::mould);
        x.draw('.', 5, 1, 1, 1);
        Check.refused(x, "mould: casting, moulds", NONE, x::mould);
        x.draw('c', 5, 1, 1, 1);
        x.draw('c', 5, 0, 1, 1);
        Check.refused(x, "mould: gate, moulds", NONE, x::mould);
        x.draw('o', 0, 5, 2, 1);
        Check.refused(x, "mould: gate, cores, moulds", NONE, x::mould);
        x.draw('g', 5, 0, 1, 1);
        Check.refused(x, "mould: cores, moulds", UNSUPPORTED, x::mould);
        x.makeCores(1, 1);
        Check.refused(x, "mould: cores not good yet, moulds", UNSUPPORTED, x::mould);
        x.hours(1);
        Check.refused(x, "mould: moulds, with cores", STATE, x::mould);
    }

    private static void promise37MouldThenLadleThenCastings() {
        Ironpour x = Yard.sound();
        Check.refused(x, "pour: mould, empty ladle", NONE, x::pour);
        Yard.tapPig(x, 100);
        Check.refused(x, "pour: mould", NONE, x::pour);
        x.minutes(51);
        Check.refused(x, "pour: mould, cold ladle", NONE, x::pour);
        x.mould();
        Check.refused(x, "pour: cold ladle", STATE, x::pour);
        x.pig();
        Check.refused(x, "pour: empty ladle", STATE, x::pour);
        for (int i = 0; i < 30; i++) {
            Yard.tapPig(x, 32);
            x.pour();
            x.mould();
        }
        Check.refused(x, "pour: empty ladle, castings", STATE, x::pour);
        Yard.tapPig(x, 32);
        Check.refused(x, "pour: castings", UNSUPPORTED, x::pour);
        x.minutes(50);
        Check.refused(x, "pour at 1250: castings", UNSUPPORTED, x::pour);
        x.minutes(1);
        Check.refused(x, "pour: cold ladle, castings", STATE, x::pour);
        Ironpour full = Yard.sound();
        for (int i = 0; i < 30; i++) {
            full.mould();
            Yard.tapPig(full, 32);
            full.pour();
        }
        Check.refused(full, "pour: mould, empty ladle, castings", NONE, full::pour);
        Yard.tapPig(full, 32);
        Check.refused(full, "pour: mould, castings", NONE, full::pour);
        full.minutes(51);
        Check.refused(full, "pour: mould, cold ladle, castings", NONE, full::pour);
    }

    private static void promise42CastingThenElement() {
        Ironpour x = new Ironpour();
        Check.refused(x, "has: casting, element", OUTSIDE, () -> x.has(0, 'x'));
        Yard.cast(x, 0);
        for (int casting : new int[] {-1, 1}) {
            Check.refused(x, "has: casting", OUTSIDE, () -> x.has(casting, 'c'));
            Check.refused(x, "has: casting, element", OUTSIDE, () -> x.has(casting, 'x'));
        }
        Check.refused(x, "has: element", ILLEGAL, () -> x.has(0, 'x'));
    }

    private static void promise44CastingThenAllowedThenGone() {
        Ironpour x = new Ironpour();
        int delivered = Yard.cast(x, 0);
        int deliveredDuctile = Yard.castDuctile(x, 20);
        int broken = Yard.cast(x, 4);
        int brokenDuctile = Yard.castDuctile(x, 100);
        int brokenHard = Yard.cast(x, 32);
        int brokenScabHard = Yard.cast(x, 36);
        Check.refused(x, "weld: ductile", UNSUPPORTED, () -> x.weld(deliveredDuctile));
        Check.refused(x, "weld: hard", UNSUPPORTED, () -> x.weld(brokenHard));
        Check.refused(x, "weld: hard with a scab", UNSUPPORTED, () -> x.weld(brokenScabHard));
        Check.no("weld: grey, not hard, without a scab", x.weld(delivered));
        Check.yes("deliver", x.deliver(delivered) && x.deliver(deliveredDuctile));
        for (int casting : new int[] {broken, brokenDuctile, brokenHard, brokenScabHard}) {
            x.breakUp(casting);
        }
        Check.refused(x, "weld: delivered", STATE, () -> x.weld(delivered));
        Check.refused(x, "weld: broken up", STATE, () -> x.weld(broken));
        Check.refused(x, "weld: ductile, delivered", UNSUPPORTED, () -> x.weld(deliveredDuctile));
        Check.refused(x, "weld: ductile, broken up", UNSUPPORTED, () -> x.weld(brokenDuctile));
        Check.refused(x, "weld: hard, broken up", UNSUPPORTED, () -> x.weld(brokenHard));
        Check.refused(x, "weld: hard with a scab, broken up", UNSUPPORTED, () -> x.weld(brokenScabHard));
        Check.refused(x, "weld: casting", OUTSIDE, () -> x.weld(6));
        Check.refused(x, "weld: casting", OUTSIDE, () -> x.weld(-1));
    }

    private static void promises45And46CastingThenGone() {
        Ironpour x = new Ironpour();
        int delivered = Yard.cast(x, 0);
        int broken = Yard.cast(x, 0);
        int brokenWithFault = Yard.cast(x, 2);
        x.deliver(delivered);
        x.breakUp(broken);
        x.breakUp(brokenWithFault);
        for (int casting : new int[] {delivered, broken, brokenWithFault}) {
            Check.refused(x, "deliver: gone", STATE, () -> x.deliver(casting));
            Check.refused(x, "breakUp: gone", STATE, () -> x.breakUp(casting));
        }
        for (int casting : new int[] {-1, 3}) {
            Check.refused(x, "deliver: casting", OUTSIDE, () -> x.deliver(casting));
            Check.refused(x, "breakUp: casting", OUTSIDE, () -> x.breakUp(casting));
        }
    }
}
