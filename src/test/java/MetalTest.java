import java.util.NoSuchElementException;

/** Promises 23 to 34: furnace, ladle, pools and the cheapest charge. */
final class MetalTest {
    private static final Class<IllegalArgumentException> ILLEGAL = IllegalArgumentException.class;
    private static final Class<IllegalStateException> STATE = IllegalStateException.class;
    private static final Class<UnsupportedOperationException> UNSUPPORTED = UnsupportedOperationException.class;
    private static final Class<NoSuchElementException> NONE = NoSuchElementException.class;

    public static void main(String[] arguments) {
        promise23Charge();
        promise23Returns();
        promise23Wrong();
        promise24Furnace();
        promise25Hold();
        promise26Tap();
        promise27Treat();
        promise28Minutes();
        promise29Ladle();
        promise30Pig();
        promise31Pool();
        promise32PoolHas();
        promise33LeastCost();
        promise33Wrong();
        promise33Compared();
        promise34Cheapest();
        Check.end("MetalTest");
    }

    private static void furnaceHas(Ironpour x, String what, int... due) {
        for (int i = 0; i < due.length; i++) {
            char element = "csmp".charAt(i);
            Check.same(what + ": furnace " + element, x.furnace(element), due[i]);
        }
    }

    private static void promise23Charge() {
        Ironpour x = new Ironpour();
        Check.same("coke adds no iron", x.charge('k', 1), 0);
        Check.refused(x, "furnace without iron", NONE, () -> x.furnace('c'));
        Check.same("pig", x.charge('p', 100), 100);
        furnaceHas(x, "pig and coke", 420 + 9, 100, 50, 8);
        Check.same("scrap", x.charge('s', 300), 400);
        furnaceHas(x, "and scrap", (4200 + 600 + 95) * 10 / 400, 1900 * 10 / 400, 2900 * 10 / 400, 3);
        Check.same("ferrosilicon", x.charge('f', 20), 420);
        furnaceHas(x, "and ferrosilicon", (4895 + 2) * 10 / 420, 3400 * 10 / 420, 2900 * 10 / 420, 140 * 10 / 420);
        Ironpour small = new Ironpour();
        for (int i = 0; i < 10; i++) {
            small.charge('p', 1);
        }
        furnaceHas(small, "grams are cut in each charge", 420, 100, 50, 0);
        small.charge('p', 5);
        furnaceHas(small, "4 grams of phosphorus come", 420, 100, 50, 40 / 15);
        Ironpour coke = new Ironpour();
        coke.charge('k', 1000);
        coke.charge('f', 1);
        furnaceHas(coke, "coke is carbon alone", 950000, 750, 0, 0);
        Ironpour full = new Ironpour();
        Check.same("1000", full.charge('s', 1000), 1000);
        Check.same("2000", full.charge('s', 1000), 2000);
        Check.same("2999", full.charge('s', 999), 2999);
        Check.refused(full, "more than 3000", STATE, () -> full.charge('s', 2));
        Check.same("3000", full.charge('f', 1), 3000);
        Check.refused(full, "more than 3000", STATE, () -> full.charge('p', 1));
        Check.same("coke still goes", full.charge('k', 1000), 3000);
    }

    private static void promise23Returns() {
        Ironpour x = new Ironpour();
        x.charge('p', 333);
        x.tap(100);
        x.pig();
        Check.same("grey returns", x.charge('g', 30), 263);
        Check.same("the pool", x.pool('g'), 70);
        x.charge('g', 70);
        furnaceHas(x, "all is back", 420, 100, 50, 7);
        Check.refused(x, "none left", UNSUPPORTED, () -> x.charge('g', 1));
        x.tap(100);
        x.treat(20);
        x.pig();
        Check.refused(x, "none of the other alloy", UNSUPPORTED, () -> x.charge('g', 100));
        Check.same("ductile returns", x.charge('d', 100), 333);
        Check.yes("nothing is lost", x.isSound());
        Ironpour parts = new Ironpour();
        parts.charge('p', 7);
        parts.tap(7);
        parts.pig();
        parts.charge('g', 3);
        furnaceHas(parts, "the same part, cut: 126 of 294, 30 of 70, 15 of 35, 2 of 5", 420, 100, 50, 20 / 3);
        Check.same("what is left in the pool", parts.poolHas('g', 'p'), 3 * 10 / 4);
    }

    private static void promise23Wrong() {
        Ironpour x = new Ironpour();
        x.charge('p', 500);
        x.tap(10);
        x.pig();
        for (char kind : new char[] {'x', 'P', 'c', 'r', 0, 256 + 'p', ' '}) {
            Check.refused(x, "charge kind " + (int) kind, ILLEGAL, () -> x.charge(kind, 1));
        }
        for (int amount : new int[] {0, 1001, -1, Integer.MIN_VALUE, Integer.MAX_VALUE}) {
            for (char kind : "psfkgd".toCharArray()) {
                Check.refused(x, "charge amount " + amount, ILLEGAL, () -> x.charge(kind, amount));
            }
        }
        Check.refused(x, "more than the pool has", UNSUPPORTED, () -> x.charge('g', 11));
        Check.refused(x, "an empty pool", UNSUPPORTED, () -> x.charge('d', 1));
        x.charge('s', 1000);
        x.charge('s', 1000);
        x.charge('s', 505);
        Check.refused(x, "both pool and furnace", UNSUPPORTED, () -> x.charge('g', 11));
        Check.refused(x, "the furnace", STATE, () -> x.charge('g', 6));
        Check.same("what it takes", x.charge('g', 5), 3000);
    }

    private static void promise24Furnace() {
        Ironpour x = new Ironpour();
        Check.refused(x, "no iron", NONE, () -> x.furnace('c'));
        Check.refused(x, "no element, no iron", ILLEGAL, () -> x.furnace('k'));
        x.charge('s', 7);
        furnaceHas(x, "7 kilograms of scrap", 140 / 7, 210 / 7, 560 / 7, 10 / 7);
        for (char element : new char[] {'x', 'C', 0, 256 + 'c', 'f'}) {
            Check.refused(x, "furnace " + (int) element, ILLEGAL, () -> x.furnace(element));
        }
        x.tap(7);
        Check.refused(x, "all is tapped", NONE, () -> x.furnace('c'));
        x.charge('f', 10);
        furnaceHas(x, "nothing stayed behind", 1, 750, 0, 0);
        Ironpour one = new Ironpour();
        one.charge('p', 1);
        furnaceHas(one, "a single kilogram", 420, 100, 50, 0);
        one.tap(1);
        one.pig();
        Check.same("in the pool", one.poolHas('g', 'c'), 420);
        Check.same("and back again", one.charge('g', 1), 1);
        furnaceHas(one, "with its elements", 420, 100, 50, 0);
    }

    private static void promise25Hold() {
        Ironpour x = new Ironpour();
        Check.same("an empty furnace", x.hold(120), 0);
        x.charge('p', 1000);
        Check.same("a minute", x.hold(1), 42000 - 21);
        furnaceHas(x, "behind a minute", 419, 99, 49, 8);
        int carbon = 42000 - 21;
        int silicon = 10000 - 2;
        int manganese = 5000 - 1;
        for (int i = 0; i < 120; i++) {
            carbon -= carbon / 2000;
            silicon -= silicon / 4000;
            manganese -= manganese / 4000;
        }
        Check.same("two hours", x.hold(120), carbon);
        furnaceHas(x, "behind two hours", carbon / 100, silicon / 100, manganese / 100, 8);
        for (int i = 0; i < 9; i++) {
            x.hold(120);
        }
        furnaceHas(x, "less than a 4000th is cut", x.furnace('c'), (10000 - 1001 * 2 - 200) / 100, 39, 8);
        Ironpour even = new Ironpour();
        even.charge('p', 400);
        even.hold(1);
        furnaceHas(even, "a 4000th of 4000 grams of silicon is lost", (16800 - 8) / 40, 99, 50, 8);
        even.charge('p', 400);
        even.hold(1);
        furnaceHas(even, "and one of 4000 grams of manganese", 419, 99, 49, 8);
        Ironpour little = new Ironpour();
        little.charge('p', 47);
        Check.same("1974 grams lose nothing", little.hold(120), 1974);
        little.charge('p', 1);
        Check.same("2016 grams lose down to 1999", little.hold(120), 1999);
        Check.yes("it is noted", little.isSound());
        promise25JustBelow4000();
        for (int wrong : new int[] {0, 121, -1, Integer.MIN_VALUE, Integer.MAX_VALUE}) {
            Check.refused(x, "hold " + wrong, ILLEGAL, () -> x.hold(wrong));
        }
    }

    /** 3999 grams lose nothing, 4000 lose one: 39990 by 1333 is 30, and by 930 it is 43. */
    private static void promise25JustBelow4000() {
        Ironpour silicon = new Ironpour();
        silicon.charge('s', 1000);
        silicon.charge('s', 333);
        silicon.hold(120);
        Check.same("3999 grams of silicon", silicon.furnace('s'), 30);
        Ironpour manganese = new Ironpour();
        manganese.charge('s', 3);
        manganese.charge('p', 795);
        manganese.charge('f', 132);
        manganese.hold(120);
        Check.same("3999 grams of manganese", manganese.furnace('m'), 43);
        Ironpour phosphorus = new Ironpour();
        for (int i = 0; i < 3; i++) {
            phosphorus.charge('p', 1000);
        }
        for (int i = 0; i < 20; i++) {
            phosphorus.hold(120);
        }
        Check.same("phosphorus is never lost", phosphorus.furnace('p'), 8);
    }

    private static void promise26Tap() {
        Ironpour x = new Ironpour();
        Check.refused(x, "an empty furnace", UNSUPPORTED, () -> x.tap(1));
        x.charge('p', 600);
        x.charge('k', 1);
        Check.same("tap", x.tap(500), 100);
        Check.same("the ladle", x.ladle('w'), 500);
        Check.same("its heat", x.ladle('h'), 1450);
        Check.same("its magnesium", x.ladle('m'), 0);
        for (int wrong : new int[] {0, 501, -1, Integer.MIN_VALUE, Integer.MAX_VALUE}) {
            Check.refused(x, "tap " + wrong, ILLEGAL, () -> x.tap(wrong));
        }
        Check.refused(x, "ladle not empty", STATE, () -> x.tap(1));
        Check.refused(x, "nor so much in the furnace", STATE, () -> x.tap(101));
        x.pig();
        Check.refused(x, "not so much", UNSUPPORTED, () -> x.tap(101));
        Check.same("all", x.tap(100), 0);
        Ironpour parts = new Ironpour();
        parts.charge('p', 7);
        parts.tap(3);
        furnaceHas(parts, "what is cut stays: 168 of 294, 40 of 70, 20 of 35, 3 of 5", 420, 100, 50, 3 * 10 / 4);
        parts.pig();
        Check.same("the ladle's part, cut", parts.poolHas('g', 'p'), 2 * 10 / 3);
        parts.tap(1);
        Check.same("a fresh ladle", parts.ladle('h'), 1450);
    }

    private static void promise27Treat() {
        Ironpour x = new Ironpour();
        Check.refused(x, "an empty ladle", STATE, () -> x.treat(1));
        Check.refused(x, "both", ILLEGAL, () -> x.treat(0));
        x.charge('p', 600);
        x.tap(100);
        Check.same("treat", x.treat(1), 1);
        Check.same("treat more", x.treat(98), 99);
        for (int wrong : new int[] {0, 101, -1, Integer.MIN_VALUE, Integer.MAX_VALUE}) {
            Check.refused(x, "treat " + wrong, ILLEGAL, () -> x.treat(wrong));
        }
        Check.refused(x, "more than 100", UNSUPPORTED, () -> x.treat(2));
        Check.same("100", x.treat(1), 100);
        Check.refused(x, "more than 100", UNSUPPORTED, () -> x.treat(1));
        x.pig();
        x.tap(100);
        Check.same("none in a fresh ladle", x.ladle('m'), 0);
        Check.same("100 at once", x.treat(100), 100);
    }

    private static void promise28Minutes() {
        Ironpour x = new Ironpour();
        Check.same("an empty ladle", x.minutes(60), 0);
        x.charge('p', 600);
        x.tap(100);
        x.treat(100);
        Check.same("heat", x.minutes(1), 1446);
        Check.same("magnesium", x.ladle('m'), 95);
        Check.same("heat", x.minutes(2), 1438);
        Check.same("rounded up: 95, 90, 85", x.ladle('m'), 85);
        int magnesium = 85;
        for (int i = 0; i < 60; i++) {
            magnesium -= magnesium % 20 == 0 ? magnesium / 20 : magnesium / 20 + 1;
        }
        Check.same("an hour", x.minutes(60), 1198);
        Check.same("magnesium", x.ladle('m'), magnesium);
        for (int i = 0; i < 4; i++) {
            x.minutes(60);
        }
        Check.same("nearly cold", x.ladle('h'), 238);
        Check.same("nearly cold", x.minutes(54), 22);
        Check.same("at least 20", x.minutes(1), 20);
        Check.same("at least 20", x.minutes(60), 20);
        Check.same("no magnesium", x.ladle('m'), 0);
        x.draw('g', 0, 0, 1, 1);
        x.draw('c', 0, 1, 1, 1);
        x.mould();
        x.minutes(3);
        x.mould();
        x.minutes(60);
        Check.same("the first mould", x.waiting(0), 63);
        Check.same("the second mould", x.waiting(1), 60);
        x.hold(10);
        Check.same("only minutes count", x.waiting(1), 60);
        for (int wrong : new int[] {0, 61, -1, Integer.MIN_VALUE, Integer.MAX_VALUE}) {
            Check.refused(x, "minutes " + wrong, ILLEGAL, () -> x.minutes(wrong));
        }
    }

    private static void promise29Ladle() {
        Ironpour x = new Ironpour();
        for (char what : new char[] {'x', 'W', 0, 256 + 'w', 'c', 's'}) {
            Check.refused(x, "an empty ladle " + (int) what, ILLEGAL, () -> x.ladle(what));
        }
        x.charge('p', 600);
        x.tap(77);
        x.treat(50);
        x.minutes(10);
        Check.same("kilograms", x.ladle('w'), 77);
        Check.same("heat", x.ladle('h'), 1410);
        Check.same("magnesium 50 47 44 41 38 36 34 32 30 28 26", x.ladle('m'), 26);
        for (char what : new char[] {'x', 'W', 0, 256 + 'w', 'c', 's'}) {
            Check.refused(x, "ladle " + (int) what, ILLEGAL, () -> x.ladle(what));
        }
        x.pig();
        Check.same("empty: kilograms", x.ladle('w'), 0);
        Check.same("empty: heat", x.ladle('h'), 0);
        Check.same("empty: magnesium", x.ladle('m'), 0);
    }

    private static void promise30Pig() {
        Ironpour x = new Ironpour();
        Check.refused(x, "an empty ladle", STATE, x::pig);
        x.charge('p', 1000);
        x.tap(100);
        x.treat(19);
        Check.same("pig", x.pig(), 100);
        Check.same("grey below 20", x.pool('g'), 100);
        x.tap(50);
        x.treat(20);
        x.minutes(60);
        Check.same("pig", x.pig(), 50);
        Check.same("ductile if it was ever 20", x.pool('d'), 50);
        x.tap(30);
        Check.same("pig", x.pig(), 30);
        Check.same("the next ladle is grey again", x.pool('g'), 130);
        x.tap(20);
        x.treat(19);
        x.minutes(1);
        x.treat(1);
        x.minutes(1);
        x.treat(2);
        x.pig();
        Check.same("19, 18, 19, 18, 20", x.pool('d'), 70);
        Check.refused(x, "an empty ladle again", STATE, x::pig);
        Check.yes("isSound", x.isSound());
    }

    private static void promise31Pool() {
        Ironpour x = new Ironpour();
        Check.same("grey", x.pool('g'), 0);
        Check.same("ductile", x.pool('d'), 0);
        x.charge('p', 100);
        x.tap(10);
        x.pig();
        x.tap(7);
        x.treat(100);
        x.pig();
        Check.same("grey", x.pool('g'), 10);
        Check.same("ductile", x.pool('d'), 7);
        for (char pool : new char[] {'x', 'G', 'p', 0, 256 + 'g'}) {
            Check.refused(x, "pool " + (int) pool, ILLEGAL, () -> x.pool(pool));
        }
    }

    private static void promise32PoolHas() {
        Ironpour x = new Ironpour();
        Check.refused(x, "no iron", NONE, () -> x.poolHas('g', 'c'));
        Check.refused(x, "no pool, no iron", ILLEGAL, () -> x.poolHas('x', 'c'));
        Check.refused(x, "no element, no iron", ILLEGAL, () -> x.poolHas('d', 'x'));
        x.charge('p', 100);
        x.tap(50);
        x.pig();
        x.charge('s', 50);
        x.tap(100);
        x.treat(30);
        x.pig();
        int[] grey = {420, 100, 50, 8};
        int[] ductile = {220, 65, 65, 5};
        for (int i = 0; i < 4; i++) {
            char element = "csmp".charAt(i);
            Check.same("grey " + element, x.poolHas('g', element), grey[i]);
            Check.same("ductile " + element, x.poolHas('d', element), ductile[i]);
        }
        for (char wrong : new char[] {'x', 'C', 0, 256 + 'c'}) {
            Check.refused(x, "poolHas pool " + (int) wrong, ILLEGAL, () -> x.poolHas(wrong, 'c'));
            Check.refused(x, "poolHas element " + (int) wrong, ILLEGAL, () -> x.poolHas('g', wrong));
        }
        x.charge('g', 50);
        Check.refused(x, "used up", NONE, () -> x.poolHas('g', 'c'));
    }

    private static void cheapestIs(Ironpour x, int pig, int scrap, int alloy) {
        Check.same("cheapest pig", x.cheapest('p'), pig);
        Check.same("cheapest scrap", x.cheapest('s'), scrap);
        Check.same("cheapest alloy", x.cheapest('f'), alloy);
    }

    private static void promise33LeastCost() {
        Ironpour x = new Ironpour();
        Check.same("all prices the same", x.leastCost(0, 450, 0, 5, 5, 5), 500);
        cheapestIs(x, 100, 0, 0);
        Check.same("scrap is cheap", x.leastCost(0, 450, 0, 6, 5, 6), 500);
        cheapestIs(x, 0, 100, 0);
        Check.same("alloy is cheap, ten parts at most", x.leastCost(0, 450, 0, 1000, 1000, 1), 90 * 1000 + 10);
        cheapestIs(x, 90, 0, 10);
        Check.same("carbon is cut", x.leastCost(299, 299, 0, 100, 50, 400), 7000 + 29 * 50 + 400);
        cheapestIs(x, 70, 29, 1);
        Check.same("the most is included", x.leastCost(420, 420, 0, 3, 1, 1), 300);
        Check.refused(x, "carbon of 421", NONE, () -> x.leastCost(421, 450, 0, 3, 1, 1));
        Check.refused(x, "between two", NONE, () -> x.leastCost(302, 303, 0, 1, 1, 1));
        Check.same("silicon is cut", x.leastCost(0, 450, 94, 1000, 1, 1), 100);
        cheapestIs(x, 0, 91, 9);
        Check.same("a part more", x.leastCost(0, 450, 95, 1000, 1, 1), 100);
        cheapestIs(x, 0, 90, 10);
        Check.same("silicon", x.leastCost(0, 20, 102, 9, 1, 900), 10 * 900 + 90);
        cheapestIs(x, 0, 90, 10);
        Check.same("the highest prices", x.leastCost(0, 450, 0, 1000, 1000, 1000), 100000);
        Check.same("the most silicon", x.leastCost(0, 450, 165, 1, 1, 1), 100);
        cheapestIs(x, 90, 0, 10);
        Check.refused(x, "more silicon", NONE, () -> x.leastCost(0, 450, 166, 1, 1, 1));
    }

    private static void promise33Wrong() {
        Ironpour x = new Ironpour();
        for (int wrong : new int[] {-1, 451, Integer.MIN_VALUE, Integer.MAX_VALUE}) {
            Check.refused(x, "least", ILLEGAL, () -> x.leastCost(wrong, 450, 0, 1, 1, 1));
            Check.refused(x, "most", ILLEGAL, () -> x.leastCost(0, wrong, 0, 1, 1, 1));
            Check.refused(x, "silicon", ILLEGAL, () -> x.leastCost(0, 450, wrong, 1, 1, 1));
        }
        for (int wrong : new int[] {0, 1001, -1, Integer.MIN_VALUE, Integer.MAX_VALUE}) {
            Check.refused(x, "price of pig", ILLEGAL, () -> x.leastCost(0, 450, 0, wrong, 1, 1));
            Check.refused(x, "price of scrap", ILLEGAL, () -> x.leastCost(0, 450, 0, 1, wrong, 1));
            Check.refused(x, "price of alloy", ILLEGAL, () -> x.leastCost(0, 450, 0, 1, 1, wrong));
        }
        Check.refused(x, "most below least", ILLEGAL, () -> x.leastCost(300, 299, 0, 1, 1, 1));
        Check.refused(x, "none, and wrong", ILLEGAL, () -> x.leastCost(450, 450, 450, 1, 1, 0));
        Check.refused(x, "none", NONE, () -> x.leastCost(450, 450, 450, 1, 1, 1));
    }

    private static void promise33Compared() {
        java.util.Random random = new java.util.Random(33);
        for (int run = 0; run < 500; run++) {
            Ironpour x = new Ironpour();
            int least = random.nextInt(430);
            int most = least + random.nextInt(451 - least);
            int silicon = random.nextInt(180);
            int[] prices = {1 + random.nextInt(20), 1 + random.nextInt(20), 1 + random.nextInt(60)};
            int[] due = {Integer.MAX_VALUE, 0, 0};
            for (int pig = 0; pig <= 100; pig += 10) {
                for (int alloy = 10; alloy >= 0; alloy--) {
                    int scrap = 100 - pig - alloy;
                    int price = pig * prices[0] + scrap * prices[1] + alloy * prices[2];
                    int carbon = (42 * pig + 2 * scrap + alloy / 10) * 10 / 100;
                    int has = (10 * pig + 3 * scrap + 75 * alloy) * 10 / 100;
                    if (scrap >= 0 && carbon >= least && carbon <= most && has >= silicon && price <= due[0]) {
                        due = new int[] {price, pig, alloy};
                    }
                }
            }
            if (due[0] == Integer.MAX_VALUE) {
                Check.refused(x, "leastCost", NONE,
                        () -> x.leastCost(least, most, silicon, prices[0], prices[1], prices[2]));
            } else {
                Check.same("leastCost", x.leastCost(least, most, silicon, prices[0], prices[1], prices[2]), due[0]);
                cheapestIs(x, due[1], 100 - due[1] - due[2], due[2]);
            }
        }
    }

    private static void promise34Cheapest() {
        Ironpour x = new Ironpour();
        Check.refused(x, "none found yet", STATE, () -> x.cheapest('p'));
        Check.refused(x, "no kind, none found", ILLEGAL, () -> x.cheapest('k'));
        Check.refused(x, "leastCost", NONE, () -> x.leastCost(450, 450, 0, 1, 1, 1));
        Check.refused(x, "still none found", STATE, () -> x.cheapest('s'));
        x.leastCost(0, 100, 60, 10, 7, 8);
        cheapestIs(x, 0, 95, 5);
        Check.refused(x, "leastCost", NONE, () -> x.leastCost(450, 450, 0, 1, 1, 1));
        cheapestIs(x, 0, 95, 5);
        for (char kind : new char[] {'x', 'k', 'g', 'd', 'P', 0, 256 + 'p'}) {
            Check.refused(x, "cheapest " + (int) kind, ILLEGAL, () -> x.cheapest(kind));
        }
        x.leastCost(400, 450, 0, 10, 7, 8);
        cheapestIs(x, 100, 0, 0);
    }
}
