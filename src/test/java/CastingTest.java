import java.util.NoSuchElementException;

/** Promises 35 to 46: moulds and castings. */
final class CastingTest {
    private static final Class<IllegalArgumentException> ILLEGAL = IllegalArgumentException.class;
    private static final Class<IllegalStateException> STATE = IllegalStateException.class;
    private static final Class<UnsupportedOperationException> UNSUPPORTED = UnsupportedOperationException.class;
    private static final Class<NoSuchElementException> NONE = NoSuchElementException.class;
    private static final Class<IndexOutOfBoundsException> OUTSIDE = IndexOutOfBoundsException.class;

    public static void main(String[] arguments) {
        promise35Mould();
        promise35MouldIsKept();
        promise36Waiting();
        promise37Pour();
        promise37ThirtyCastings();
        promise38And39();
        promise40ShrunkAndCold();
        promise40FilledTooCold();
        promise40Scab();
        promise40Blown();
        promise40Core();
        promise40Hard();
        promise41ShrunkIn();
        promise42Has();
        promise43Bar();
        promise44Weld();
        promise45Deliver();
        promise46BreakUp();
        Check.end("CastingTest");
    }

    private static boolean hasFault(Ironpour x, int casting, int bit) {
        return (x.faults(casting) & bit) != 0;
    }

    private static void promise35Mould() {
        Ironpour x = new Ironpour();
        Check.refused(x, "mould of sand", NONE, x::mould);
        x.draw('c', 3, 3, 2, 2);
        x.draw('g', 3, 1, 1, 2);
        Check.refused(x, "no gate on top", NONE, x::mould);
        x.draw('g', 3, 0, 1, 1);
        Check.same("mould", x.mould(), 1);
        x.draw('r', 3, 3, 2, 2);
        Check.refused(x, "no cell of the casting", NONE, x::mould);
        x.draw('c', 11, 8, 1, 1);
        Check.same("though it is misrun", x.mould(), 2);
        x.draw('o', 0, 0, 1, 1);
        x.draw('o', 0, 5, 1, 3);
        x.draw('c', 11, 8, 1, 1);
        Check.refused(x, "no cores", UNSUPPORTED, x::mould);
        x.makeCores(1, 1);
        x.makeCores(1, 2);
        x.hours(1);
        Check.refused(x, "one core of two is good", UNSUPPORTED, x::mould);
        x.hours(1);
        Check.same("mould with two cores", x.mould(), 3);
        Check.same("both are taken", x.goodCores(), 0);
        Check.refused(x, "none left", UNSUPPORTED, x::mould);
        x.draw('.', 3, 0, 1, 1);
        Check.refused(x, "neither gate nor cores", NONE, x::mould);
        x.draw('g', 3, 0, 1, 1);
        x.draw('.', 0, 0, 1, 8);
        for (int i = 4; i <= 10; i++) {
            Check.same("mould", x.mould(), i);
        }
        Check.refused(x, "10 wait", STATE, x::mould);
        Ironpour corner = new Ironpour();
        corner.draw('g', 5, 0, 1, 1);
        corner.draw('c', 0, 0, 1, 1);
        Check.same("the only cell in the corner", corner.mould(), 1);
        x.draw('o', 0, 0, 1, 1);
        Check.refused(x, "10 wait, no cores", UNSUPPORTED, x::mould);
        x.makeCores(2, 1);
        x.hours(1);
        Check.refused(x, "10 wait, and cores", STATE, x::mould);
        Yard.tapPig(x, 500);
        x.pour();
        Check.same("again 10", x.mould(), 10);
        Check.same("a core was taken", x.goodCores(), 1);
    }

    private static void promise35MouldIsKept() {
        Ironpour x = Yard.sound();
        x.mould();
        x.draw('c', 0, 0, 12, 9);
        x.part(1);
        x.mill(0, 20, 0, 0);
        Yard.tapPig(x, 100);
        int casting = x.pour();
        Check.same("neither pattern nor sand matters behind that", x.faults(casting), 0);
        Check.same("nor for what it takes", x.ladle('w'), 68);
        Check.same("the pattern stays", x.cell(0, 0), 'c');
        Check.same("and what it would do", x.filledIn(5, 5), -1);
    }

    private static void promise36Waiting() {
        Ironpour x = Yard.sound();
        Check.refused(x, "no mould", NONE, () -> x.waiting(0));
        x.mould();
        Check.same("just made", x.waiting(0), 0);
        x.minutes(7);
        x.mould();
        x.minutes(60);
        x.hours(5);
        Check.same("the next one", x.waiting(0), 67);
        Check.same("the other one", x.waiting(1), 60);
        for (int wrong : new int[] {2, 10, -1, Integer.MIN_VALUE, Integer.MAX_VALUE}) {
            Check.refused(x, "waiting " + wrong, NONE, () -> x.waiting(wrong));
        }
        Yard.tapPig(x, 100);
        x.pour();
        Check.same("behind the pour", x.waiting(0), 60);
        Check.refused(x, "only one waits", NONE, () -> x.waiting(1));
    }

    private static void promise37Pour() {
        Ironpour x = Yard.sound();
        Check.refused(x, "no mould, empty ladle", NONE, x::pour);
        Yard.tapPig(x, 70);
        Check.refused(x, "no mould", NONE, x::pour);
        x.mould();
        x.draw('c', 5, 6, 1, 1);
        x.mould();
        x.mould();
        Check.same("pour", x.pour(), 0);
        Check.same("32 kilograms", x.ladle('w'), 38);
        x.minutes(50);
        Check.same("pour at 1250", x.pour(), 1);
        Check.same("34 kilograms", x.ladle('w'), 4);
        x.minutes(1);
        Check.refused(x, "colder than 1250", STATE, x::pour);
        x.pig();
        Check.refused(x, "empty ladle", STATE, x::pour);
        Yard.tapPig(x, 34);
        Check.same("just enough", x.pour(), 2);
        Check.no("short", hasFault(x, 2, 2));
        Check.same("nothing left", x.ladle('w'), 0);
        Check.same("no heat", x.ladle('h'), 0);
        x.mould();
        Yard.tapPig(x, 1);
        Check.same("a single kilogram", x.has(x.pour(), 'c'), 420);
        x.mould();
        Yard.tapPig(x, 33);
        Check.same("short", x.pour(), 4);
        Check.yes("short", hasFault(x, 4, 2));
        Check.same("all of it is poured", x.ladle('w'), 0);
        Check.same("33 kilograms were it", x.breakUp(4), 4 + 33);
        Check.yes("isSound", x.isSound());
    }

    private static void promise37ThirtyCastings() {
        Ironpour x = Yard.sound();
        for (int i = 0; i < 30; i++) {
            x.mould();
            Yard.tapPig(x, 40);
            Check.same("casting", x.pour(), i);
            Check.same("castings", x.castings(), i + 1);
        }
        Check.refused(x, "30 castings, no mould", NONE, x::pour);
        x.mould();
        Check.refused(x, "30 castings", UNSUPPORTED, x::pour);
        x.breakUp(0);
        Check.refused(x, "broken up ones count", UNSUPPORTED, x::pour);
        x.pig();
        Check.refused(x, "30 castings, empty ladle", STATE, x::pour);
        Check.same("castings", x.castings(), 30);
    }

    private static void promise38And39() {
        Ironpour x = Yard.sound();
        Check.same("castings", x.castings(), 0);
        int[] magnesium = {19, 20, 100, 1};
        for (int each : magnesium) {
            Yard.castDuctile(x, each);
        }
        Check.same("castings", x.castings(), 4);
        Check.same("19", x.alloy(0), 'g');
        Check.same("20", x.alloy(1), 'd');
        Check.same("100", x.alloy(2), 'd');
        Check.same("1", x.alloy(3), 'g');
        Yard.drawSound(x);
        x.mould();
        Yard.tapPig(x, 40);
        x.treat(20);
        x.minutes(1);
        Check.same("faded to 19", x.alloy(x.pour()), 'g');
        for (int wrong : new int[] {5, 30, -1, Integer.MIN_VALUE, Integer.MAX_VALUE}) {
            Check.refused(x, "alloy " + wrong, OUTSIDE, () -> x.alloy(wrong));
            Check.refused(x, "faults " + wrong, OUTSIDE, () -> x.faults(wrong));
            Check.refused(x, "shrunkIn " + wrong, OUTSIDE, () -> x.shrunkIn(wrong));
            Check.refused(x, "has " + wrong, OUTSIDE, () -> x.has(wrong, 'c'));
            Check.refused(x, "has, both wrong " + wrong, OUTSIDE, () -> x.has(wrong, 'x'));
            Check.refused(x, "bar " + wrong, OUTSIDE, () -> x.bar(wrong));
            Check.refused(x, "weld " + wrong, OUTSIDE, () -> x.weld(wrong));
            Check.refused(x, "deliver " + wrong, OUTSIDE, () -> x.deliver(wrong));
            Check.refused(x, "breakUp " + wrong, OUTSIDE, () -> x.breakUp(wrong));
        }
        Ironpour empty = new Ironpour();
        Check.refused(empty, "the first of none", OUTSIDE, () -> empty.faults(0));
    }

    private static void promise40ShrunkAndCold() {
        Ironpour x = new Ironpour();
        for (int fault : new int[] {0, 1, 2, 3}) {
            Yard.cast(x, fault);
        }
        x.draw('.', 0, 0, 12, 9);
        x.draw('g', 5, 0, 3, 1);
        x.draw('c', 5, 1, 1, 1);
        x.part(1);
        Yard.mouldInFreshSand(x);
        Yard.tapPig(x, 8);
        Check.same("a single cell is shrunk", x.faults(x.pour()), 1);
        x.part(4);
        Yard.drawSound(x);
        x.draw('r', 0, 5, 1, 1);
        Yard.mouldInFreshSand(x);
        Yard.tapPig(x, 100);
        int casting = x.pour();
        Check.yes("a misrun feeder is cold", hasFault(x, casting, 2));
        Check.no("but nothing is shrunk", hasFault(x, casting, 1));
        for (int cell : new int[] {0, 11, 96, 107}) {
            Yard.drawSound(x);
            x.draw('r', cell % 12, cell / 12, 1, 1);
            Yard.mouldInFreshSand(x);
            Yard.tapPig(x, 100);
            Check.same("a misrun feeder in a corner is cold, and undercut", x.faults(x.pour()), 18);
        }
        Yard.drawSound(x);
        x.draw('o', 0, 4, 1, 2);
        x.draw('k', 9, 4, 1, 2);
        x.makeCores(1, 1);
        x.hours(1);
        Yard.mouldInFreshSand(x);
        Yard.tapPig(x, 100);
        Check.same("cores and chills are not misrun", x.faults(x.pour()), 0);
    }

    /** A chain that is filled in steps 0 to 26, one cell each. */
    private static void promise40FilledTooCold() {
        Ironpour x = new Ironpour();
        x.draw('c', 0, 0, 12, 1);
        x.draw('g', 0, 0, 1, 1);
        x.draw('c', 11, 1, 1, 1);
        x.draw('c', 0, 2, 12, 1);
        x.draw('c', 0, 3, 1, 1);
        Check.same("filled in step 25", x.filledIn(0, 3), 25);
        x.mould();
        x.draw('c', 0, 4, 1, 1);
        Check.same("filled in step 26", x.filledIn(0, 4), 26);
        x.mould();
        x.mould();
        Yard.tapPig(x, 500);
        x.minutes(49);
        x.minutes(1);
        Check.no("filled at 1200", hasFault(x, x.pour(), 2));
        Check.yes("filled at 1198", hasFault(x, x.pour(), 2));
        Yard.tapPig(x, 500);
        Check.no("a hotter ladle", hasFault(x, x.pour(), 2));
    }

    private static void promise40Scab() {
        Ironpour x = new Ironpour();
        x.draw('g', 5, 0, 1, 3);
        x.draw('c', 5, 3, 1, 1);
        Check.same("strength", x.mill(10, 1, 0, 0), 180);
        Check.same("speed", x.speed(), 180);
        x.mould();
        Check.yes("strength is less now", x.sand('s') < 180);
        x.mould();
        Yard.tapPig(x, 200);
        Check.no("as strong as fast", hasFault(x, x.pour(), 4));
        Check.yes("weaker", hasFault(x, x.pour(), 4));
        Ironpour weak = new Ironpour();
        weak.draw('g', 5, 0, 1, 3);
        weak.draw('c', 5, 3, 1, 1);
        Check.same("strength", weak.mill(9, 1, 0, 0), 178);
        weak.mould();
        weak.mill(10, 10, 0, 50);
        Yard.tapPig(weak, 200);
        Check.yes("what comes to the sand later does not help", hasFault(weak, weak.pour(), 4));
    }

    /** Five moulds bring the draught to 85, coal to 10 and the water to 0; whether the sixth one is blown. */
    private static boolean isBlown(int coal, int water) {
        Ironpour x = new Ironpour();
        x.draw('g', 5, 0, 1, 1);
        x.draw('c', 5, 1, 1, 1);
        for (int i = 0; i < 5; i++) {
            x.mould();
        }
        Check.same("draught of worn sand", x.sand('d'), 85);
        x.mill(0, 20, coal, 0);
        x.mill(0, 19, 0, 0);
        x.mill(0, water - 39, 0, 0);
        Check.same("water", x.sand('w'), water);
        x.mould();
        x.mill(0, 0, 0, 50);
        Yard.tapPig(x, 200);
        for (int i = 0; i < 5; i++) {
            Check.no("blown ahead of that", hasFault(x, x.pour(), 8));
        }
        return hasFault(x, x.pour(), 8);
    }

    private static void promise40Blown() {
        Check.yes("draught 79, water 41", isBlown(12, 41));
        Check.no("draught 80, water 41", isBlown(10, 41));
        Check.no("draught 79, water 40", isBlown(12, 40));
        Check.no("draught 80, water 40", isBlown(10, 40));
        Ironpour waiting = Yard.sound();
        waiting.mould();
        waiting.minutes(1);
        waiting.mould();
        waiting.minutes(60);
        Yard.tapPig(waiting, 200);
        Check.yes("61 minutes", hasFault(waiting, waiting.pour(), 8));
        Check.no("60 minutes", hasFault(waiting, waiting.pour(), 8));
    }

    private static void promise40Core() {
        Ironpour x = new Ironpour();
        Yard.cast(x, 16);
        Yard.drawSound(x);
        x.draw('o', 0, 0, 2, 1);
        x.makeCores(2, 1);
        x.hours(1);
        x.mould();
        Yard.tapPig(x, 100);
        Check.same("a core that hangs", x.faults(x.pour()), 0);
        Yard.drawSound(x);
        x.draw('g', 3, 0, 1, 1);
        Check.same("an undercut gate", x.undercut(), 1);
        x.mould();
        x.part(1);
        Check.same("can be drawn there", x.undercut(), 0);
        x.mould();
        Yard.tapPig(x, 100);
        Check.same("undercut", x.faults(x.pour()), 16);
        Check.same("not undercut", x.faults(x.pour()), 0);
    }

    /** All of the furnace is poured, so that nothing is cut; the mould is short. */
    private static int castAll(Ironpour x, int pig, int scrap, int magnesium) {
        x.mould();
        x.charge('p', pig);
        x.charge('s', scrap);
        x.tap(pig + scrap);
        if (magnesium > 0) {
            x.treat(magnesium);
        }
        return x.pour();
    }

    private static void promise40Hard() {
        Ironpour x = Yard.sound();
        x.draw('r', 0, 1, 12, 4);
        x.draw('r', 0, 6, 12, 3);
        Check.same("weight", x.weight(), 2 * (3 + 48 + 1 + 36));
        int atLimit = 0;
        int below = 0;
        for (int pig = 75; pig < 85; pig++) {
            for (int scrap = 17; scrap < 23; scrap++) {
                int kilograms = pig + scrap;
                int due = (42 * pig + 2 * scrap) * 10 / kilograms + (10 * pig + 3 * scrap) * 10 / kilograms / 3;
                if (due == 370 || due == 369) {
                    Ironpour works = Yard.sound();
                    works.draw('r', 0, 1, 12, 4);
                    works.draw('r', 0, 6, 12, 3);
                    int casting = castAll(works, pig, scrap, 0);
                    Check.same("carbon and silicon of " + due, hasFault(works, casting, 32) ? 1 : 0, 370 - due);
                    atLimit += due == 370 ? 1 : 0;
                    below += due == 369 ? 1 : 0;
                }
            }
        }
        Check.yes("both sides were tried", atLimit > 0 && below > 0);
        int[] magnesium = {0, 1, 19, 20, 100};
        int[] due = {0, 1, 1, 0, 0};
        for (int i = 0; i < magnesium.length; i++) {
            int casting = castAll(x, 100, 1, magnesium[i]);
            Check.same("magnesium " + magnesium[i], hasFault(x, casting, 32) ? 1 : 0, due[i]);
        }
        int casting = castAll(x, 1, 100, 30);
        Check.yes("ductile, but little carbon", hasFault(x, casting, 32));
    }

    private static void promise41ShrunkIn() {
        Ironpour x = new Ironpour();
        x.draw('g', 4, 0, 1, 4);
        x.draw('c', 3, 4, 5, 3);
        x.draw('r', 6, 2, 2, 2);
        x.mould();
        Yard.tapPig(x, 200);
        x.minutes(20);
        Check.same("shrunkIn", x.shrunkIn(x.pour()), x.shrunk(1370));
        Ironpour fed = new Ironpour();
        Check.same("none", fed.shrunkIn(Yard.cast(fed, 0)), 0);
        Check.same("as the pattern tells", fed.shrunkIn(Yard.cast(fed, 1)), fed.shrunk(1450));
        Check.yes("some", fed.shrunkIn(1) > 0);
        java.util.Random random = new java.util.Random(41);
        int differing = 0;
        for (int run = 0; run < 60; run++) {
            Ironpour works = new Ironpour();
            Naive.random(random, works);
            works.draw('g', 3, 0, 2, 1);
            works.draw('.', 0, 8, 12, 1);
            works.draw('c', 3, 1, 2, 5);
            works.makeCores(10, 1);
            works.hours(1);
            if (works.cores() > 10) {
                continue;
            }
            works.mould();
            Yard.tapPig(works, 500);
            works.minutes(1 + random.nextInt(49));
            int heat = works.ladle('h');
            Check.same("shrunkIn at " + heat, works.shrunkIn(works.pour()), works.shrunk(heat));
            differing += works.shrunk(heat) != works.shrunk(1450) ? 1 : 0;
        }
        Check.yes("the heat matters in some runs", differing > 0);
    }

    private static void promise42Has() {
        Ironpour x = Yard.sound();
        x.charge('p', 90);
        x.charge('s', 10);
        x.tap(33);
        x.mould();
        int casting = x.pour();
        int[] furnace = {3800, 930, 530, 74};
        for (int i = 0; i < 4; i++) {
            char element = "csmp".charAt(i);
            int ladle = furnace[i] * 33 / 100;
            int due = ladle * 32 / 33 * 10 / 32;
            Check.same("has " + element, x.has(casting, element), due);
        }
        for (char wrong : new char[] {'x', 'C', 0, 256 + 'c', 'k'}) {
            Check.refused(x, "has " + (int) wrong, ILLEGAL, () -> x.has(casting, wrong));
        }
        x.breakUp(casting);
        Check.same("it is still told", x.has(casting, 's'), 92);
    }

    private static void promise43Bar() {
        Ironpour x = new Ironpour();
        Check.same("grey pig without faults", x.bar(Yard.cast(x, 0)), 500 - 2 * (420 + 33 - 300));
        Check.same("with two faults", x.bar(Yard.cast(x, 3)), 194 - 60);
        Check.same("with a fault of 16", x.bar(Yard.cast(x, 16)), 194 - 30);
        Check.same("ductile", x.bar(Yard.castDuctile(x, 20)), 440);
        Check.same("ductile", x.bar(Yard.castDuctile(x, 100)), 600);
        Check.same("grey with magnesium is hard", x.bar(Yard.castDuctile(x, 19)), 194 - 30);
        Ironpour scrap = Yard.sound();
        scrap.draw('r', 0, 1, 12, 4);
        int casting = castAll(scrap, 1, 99, 0);
        Check.same("short and hard", scrap.faults(casting), 34);
        Check.same("less than 300 does not add", scrap.bar(casting), 500 - 60);
        Ironpour rich = Yard.sound();
        rich.mould();
        rich.charge('k', 100);
        rich.charge('p', 100);
        rich.tap(100);
        Check.same("at least 0", rich.bar(rich.pour()), 0);
        Ironpour middle = Yard.sound();
        middle.draw('r', 0, 1, 12, 4);
        casting = castAll(middle, 66, 34, 0);
        Check.same("just below", middle.bar(casting), 500 - 2 * (284 + 76 / 3 - 300) - 60);
    }

    private static void promise44Weld() {
        Ironpour x = new Ironpour();
        int scab = Yard.cast(x, 4);
        int bar = x.bar(scab);
        Check.yes("weld a scab", x.weld(scab));
        Check.same("it is gone", x.faults(scab), 0);
        Check.same("the bar bears more", x.bar(scab), bar + 30);
        Check.no("weld again", x.weld(scab));
        int both = Yard.cast(x, 12);
        Check.yes("weld one of two", x.weld(both));
        Check.same("the other one stays", x.faults(both), 8);
        int cold = Yard.cast(x, 2);
        Check.no("weld without a scab", x.weld(cold));
        Check.same("nothing else is welded", x.faults(cold), 2);
        int hard = Yard.cast(x, 36);
        Check.refused(x, "weld a hard one", UNSUPPORTED, () -> x.weld(hard));
        int ductile = Yard.castDuctile(x, 20);
        Check.refused(x, "weld a ductile one", UNSUPPORTED, () -> x.weld(ductile));
        x.deliver(scab);
        Check.refused(x, "weld a delivered one", STATE, () -> x.weld(scab));
        x.breakUp(both);
        Check.refused(x, "weld a broken one", STATE, () -> x.weld(both));
        x.breakUp(ductile);
        Check.refused(x, "weld a ductile broken one", UNSUPPORTED, () -> x.weld(ductile));
    }

    private static void promise45Deliver() {
        Ironpour x = new Ironpour();
        int good = Yard.cast(x, 0);
        Check.yes("deliver", x.deliver(good));
        Check.refused(x, "deliver again", STATE, () -> x.deliver(good));
        Check.refused(x, "break up what is delivered", STATE, () -> x.breakUp(good));
        for (int fault : new int[] {1, 2, 8, 16, 32}) {
            int bad = Yard.cast(x, fault);
            Check.no("deliver with fault " + fault, x.deliver(bad));
            Check.no("nor a second time", x.deliver(bad));
            x.breakUp(bad);
            Check.refused(x, "deliver a broken one", STATE, () -> x.deliver(bad));
        }
        int scab = Yard.cast(x, 4);
        Check.no("deliver a scab", x.deliver(scab));
        x.weld(scab);
        Check.yes("deliver what is welded", x.deliver(scab));
        Check.yes("deliver a ductile one", x.deliver(Yard.castDuctile(x, 50)));
    }

    private static void promise46BreakUp() {
        Ironpour x = Yard.sound();
        x.mould();
        x.mould();
        Yard.tapPig(x, 96);
        x.pour();
        x.pour();
        Check.same("breakUp", x.breakUp(0), 32);
        Check.same("breakUp", x.breakUp(1), 64);
        Check.refused(x, "breakUp again", STATE, () -> x.breakUp(0));
        Check.same("the pool", x.pool('g'), 64);
        Check.same("its carbon", x.poolHas('g', 'c'), 420);
        x.pig();
        Check.same("with the ladle's", x.pool('g'), 96);
        int ductile = Yard.castDuctile(x, 20);
        Check.same("into the pool of its alloy", x.breakUp(ductile), 32);
        Check.same("the pool", x.pool('d'), 32);
        Check.same("the other pool", x.pool('g'), 96);
        Check.same("returns", x.charge('d', 32), 32);
        Check.yes("isSound", x.isSound());
    }
}
