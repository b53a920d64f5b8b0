import java.util.HashMap;
import java.util.List;
import java.util.Map;
import java.util.Random;

/**
 * Promises 1 to 51 together, in runs of 512 random calls: only documented exceptions come, a call that throws
 * changes nothing, the same calls give the same answers, and the works stay sound.
 */
final class FuzzTest {
    private static final String ARGUMENT = "IllegalArgumentException";
    private static final String STATE = "IllegalStateException";
    private static final String UNSUPPORTED = "UnsupportedOperationException";
    private static final String OUTSIDE = "IndexOutOfBoundsException";
    private static final String NONE = "NoSuchElementException";
    private static final String ARITHMETIC = "ArithmeticException";
    private static final Map<String, List<String>> ALLOWED = new HashMap<>();

    public static void main(String[] arguments) {
        note();
        Map<String, Integer> seen = new HashMap<>();
        for (int run = 0; run < 120; run++) {
            oneRun(run, seen);
        }
        ALLOWED.forEach((call, thrown) -> {
            for (String each : thrown) {
                Check.yes(call + " was seen to throw " + each, seen.containsKey(call + " " + each));
            }
            Check.yes(call + " was seen to answer", seen.containsKey(call + " answers"));
        });
        Check.end("FuzzTest");
    }

    private static void note() {
        String[] none = {"undercut", "cores", "loose", "weight", "goodCores", "castings", "delivered", "isSound"};
        for (String call : none) {
            ALLOWED.put(call, List.of());
        }
        for (String call : new String[] {"draw", "part", "shrunk", "shrunkAnew", "mill", "sand", "hours", "hold",
            "minutes", "ladle", "pool"}) {
            ALLOWED.put(call, List.of(ARGUMENT));
        }
        for (String call : new String[] {"frozenIn", "heatAt", "isFed", "has"}) {
            ALLOWED.put(call, List.of(OUTSIDE, ARGUMENT));
        }
        for (String call : new String[] {"lastPlace", "bestFeeder", "furnace", "poolHas", "leastCost"}) {
            ALLOWED.put(call, List.of(ARGUMENT, NONE));
        }
        for (String call : new String[] {"cell", "filledIn", "alloy", "faults", "shrunkIn", "bar"}) {
            ALLOWED.put(call, List.of(OUTSIDE));
        }
        ALLOWED.put("speed", List.of(NONE));
        ALLOWED.put("waiting", List.of(NONE));
        ALLOWED.put("worst", List.of(NONE));
        ALLOWED.put("pig", List.of(STATE));
        ALLOWED.put("makeCores", List.of(ARGUMENT, STATE));
        ALLOWED.put("cheapest", List.of(ARGUMENT, STATE));
        ALLOWED.put("charge", List.of(ARGUMENT, UNSUPPORTED, STATE));
        ALLOWED.put("tap", List.of(ARGUMENT, STATE, UNSUPPORTED));
        ALLOWED.put("treat", List.of(ARGUMENT, STATE, UNSUPPORTED));
        ALLOWED.put("mould", List.of(NONE, UNSUPPORTED, STATE));
        ALLOWED.put("pour", List.of(NONE, STATE, UNSUPPORTED));
        ALLOWED.put("weld", List.of(OUTSIDE, UNSUPPORTED, STATE));
        ALLOWED.put("deliver", List.of(OUTSIDE, STATE));
        ALLOWED.put("breakUp", List.of(OUTSIDE, STATE));
        ALLOWED.put("goodShare", List.of(ARITHMETIC));
        ALLOWED.put("meanBar", List.of(ARITHMETIC));
    }

    /** The twin gets the same calls, the spared one only those that the works answered. */
    private static void oneRun(int seed, Map<String, Integer> seen) {
        Ironpour works = new Ironpour();
        Ironpour twin = new Ironpour();
        Ironpour spared = new Ironpour();
        Random random = new Random(seed);
        if (seed % 2 == 0) {
            Yard.drawSound(works);
            Yard.drawSound(twin);
            Yard.drawSound(spared);
        }
        String[] names = ALLOWED.keySet().stream().sorted().toArray(String[]::new);
        String before = Snapshot.of(works) + Inside.of(works);
        for (int call = 0; call < 512; call++) {
            String name = seed % 4 == 0 ? busy(random, names) : often(random, names);
            long numbers = random.nextLong();
            String answer = answer(works, name, new Random(numbers));
            Check.same(name + " by the twin", answer(twin, name, new Random(numbers)), answer);
            String after = Snapshot.of(works) + Inside.of(works);
            if (answer.startsWith("throws ")) {
                String thrown = answer.substring(7);
                Check.yes(name + " may throw " + thrown, ALLOWED.get(name).contains(thrown));
                Check.same("the works behind " + name, after, before);
                seen.merge(name + " " + thrown, 1, Integer::sum);
            } else {
                Check.same(name + " by the spared one", answer(spared, name, new Random(numbers)), answer);
                seen.merge(name + " answers", 1, Integer::sum);
            }
            Check.yes("isSound behind " + name, works.isSound());
            before = after;
        }
        Check.same("what the spared one holds", Inside.of(spared), Inside.of(works));
    }

    /** The calls that bring a works on are wanted more often than the others. */
    private static String often(Random random, String[] names) {
        String[] wanted = {"charge", "tap", "treat", "mould", "mould", "pour", "pour", "makeCores", "hours", "pig",
            "weld", "breakUp", "deliver", "mill", "draw"};
        int which = random.nextInt(names.length + wanted.length * 2);
        return which < names.length ? names[which] : wanted[(which - names.length) % wanted.length];
    }

    /** Mostly pouring, so that there are 30 castings at last. */
    private static String busy(Random random, String[] names) {
        String[] pouring = {"charge", "tap", "mould", "pour", "pour"};
        return random.nextInt(10) < 7 ? pouring[random.nextInt(5)] : often(random, names);
    }

    private static String answer(Ironpour x, String name, Random random) {
        try {
            return call(x, name, random);
        } catch (RuntimeException thrown) {
            return "throws " + thrown.getClass().getSimpleName();
        }
    }

    /** Mostly in the range, now and then beyond it. */
    private static int number(Random random, int least, int most) {
        int kind = random.nextInt(40);
        if (kind == 0) {
            return random.nextInt();
        }
        if (kind == 1) {
            return least - 1;
        }
        if (kind == 2) {
            return most + 1;
        }
        return least + random.nextInt(most - least + 1);
    }

    private static char letter(Random random, String letters) {
        return random.nextInt(25) == 0 ? (char) random.nextInt(300) : letters.charAt(random.nextInt(letters.length()));
    }

    private static String call(Ironpour x, String name, Random random) {
        int a = number(random, 0, 11);
        int b = number(random, 0, 8);
        int heat = number(random, 1200, 1500);
        int casting = number(random, 0, Math.max(0, x.castings() - 1));
        char element = letter(random, "csmp");
        switch (name) {
            case "draw": return "" + x.draw(letter(random, "..crgok"), a, b, 1 + random.nextInt(3),
                    1 + random.nextInt(3));
            case "cell": return "" + x.cell(a, b);
            case "part": return "" + x.part(number(random, 1, 8));
            case "undercut": return "" + x.undercut();
            case "cores": return "" + x.cores();
            case "loose": return "" + x.loose();
            case "weight": return "" + x.weight();
            case "filledIn": return "" + x.filledIn(a, b);
            case "speed": return "" + x.speed();
            case "frozenIn": return "" + x.frozenIn(a, b, heat);
            case "heatAt": return "" + x.heatAt(a, b, heat, number(random, 0, 400));
            case "isFed": return "" + x.isFed(a, b, heat);
            case "shrunk": return "" + x.shrunk(heat);
            case "shrunkAnew": return "" + x.shrunkAnew(heat);
            case "lastPlace": return "" + x.lastPlace(heat);
            case "bestFeeder": return "" + x.bestFeeder(heat);
            case "mill": return "" + x.mill(number(random, 0, 20), number(random, 0, 20), number(random, 0, 20),
                    number(random, 0, 50));
            case "sand": return "" + x.sand(letter(random, "cwkfbsd"));
            case "makeCores": return "" + x.makeCores(number(random, 1, 10), number(random, 1, 24));
            case "goodCores": return "" + x.goodCores();
            case "hours": return "" + x.hours(number(random, 1, random.nextInt(9) == 0 ? 48 : 3));
            default: return metalCall(x, name, random, casting, element);
        }
    }

    private static String metalCall(Ironpour x, String name, Random random, int casting, char element) {
        switch (name) {
            case "charge": return "" + x.charge(letter(random, "psfkgd"), number(random, 1, 1000));
            case "furnace": return "" + x.furnace(element);
            case "hold": return "" + x.hold(number(random, 1, 120));
            case "tap": return "" + x.tap(number(random, 1, 500));
            case "treat": return "" + x.treat(number(random, 1, random.nextBoolean() ? 20 : 100));
            case "minutes": return "" + x.minutes(number(random, 1, 60));
            case "ladle": return "" + x.ladle(letter(random, "whm"));
            case "pig": return "" + x.pig();
            case "pool": return "" + x.pool(letter(random, "gd"));
            case "poolHas": return "" + x.poolHas(letter(random, "gd"), element);
            case "leastCost": return "" + x.leastCost(number(random, 0, 450), number(random, 0, 450),
                    number(random, 0, 200), number(random, 1, 1000), number(random, 1, 1000),
                    number(random, 1, 1000));
            case "cheapest": return "" + x.cheapest(letter(random, "psf"));
            case "mould": return "" + x.mould();
            case "waiting": return "" + x.waiting(number(random, 0, 9));
            case "pour": return "" + x.pour();
            case "castings": return "" + x.castings();
            case "alloy": return "" + x.alloy(casting);
            case "faults": return "" + x.faults(casting);
            case "shrunkIn": return "" + x.shrunkIn(casting);
            case "has": return "" + x.has(casting, element);
            case "bar": return "" + x.bar(casting);
            case "weld": return "" + x.weld(casting);
            case "deliver": return "" + x.deliver(casting);
            case "breakUp": return "" + x.breakUp(casting);
            case "worst": return "" + x.worst();
            case "delivered": return "" + x.delivered();
            case "goodShare": return "" + x.goodShare();
            case "meanBar": return "" + x.meanBar();
            case "isSound": return "" + x.isSound();
            default: throw new AssertionError(name);
        }
    }
}
