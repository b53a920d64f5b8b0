import java.lang.reflect.InvocationTargetException;
import java.lang.reflect.Method;
import java.lang.reflect.Modifier;
import java.util.Arrays;
import java.util.HashMap;
import java.util.List;
import java.util.Map;
import java.util.Random;

/**
 * Promises 1 to 51 together, in runs of 512 random calls: the answers are those of NaiveWorks, only documented
 * exceptions come, a call that throws changes nothing, the same calls give the same answers, and the works stay sound.
 */
final class FuzzTest {
    private static final String ARGUMENT = "IllegalArgumentException";
    private static final String STATE = "IllegalStateException";
    private static final String UNSUPPORTED = "UnsupportedOperationException";
    private static final String OUTSIDE = "IndexOutOfBoundsException";
    private static final String NONE = "NoSuchElementException";
    private static final String ARITHMETIC = "ArithmeticException";
    private static final Map<String, List<String>> ALLOWED = new HashMap<>();

    public static void main(String[] arguments) {
        note();
        Map<String, Integer> seen = new HashMap<>();
        for (int run = 0; run < 120; run++) {
            oneRun(run, seen);
        }
        ALLOWED.forEach((call, thrown) -> {
            for (String each : thrown) {
                Check.yes(call + " was seen to throw " + each, seen.containsKey(call + " " + each));
            }
            Check.yes(call + " was seen to answer", seen.containsKey(call + " answers"));
        });
        Check.end("FuzzTest");
    }

    private static void note() {
        String[] none = {"undercut", "cores", "loose", "weight", "goodCores", "castings", "delivered", "isSound"};
        for (String call : none) {
            ALLOWED.put(call, List.of());
        }
        for (String call : new String[] {"draw", "part", "shrunk", "shrunkAnew", "mill", "sand", "hours", "hold",
            "minutes", "ladle", "pool"}) {
            ALLOWED.put(call, List.of(ARGUMENT));
        }
        for (String call : new String[] {"frozenIn", "heatAt", "isFed", "has"}) {
            ALLOWED.put(call, List.of(OUTSIDE, ARGUMENT));
        }
        for (String call : new String[] {"lastPlace", "bestFeeder", "furnace", "poolHas", "leastCost"}) {
            ALLOWED.put(call, List.of(ARGUMENT, NONE));
        }
        for (String call : new String[] {"cell", "filledIn", "alloy", "faults", "shrunkIn", "bar"}) {
            ALLOWED.put(call, List.of(OUTSIDE));
        }
        ALLOWED.put("speed", List.of(NONE));
        ALLOWED.put("waiting", List.of(NONE));
        ALLOWED.put("worst", List.of(NONE));
        ALLOWED.put("pig", List.of(STATE));
        ALLOWED.put("makeCores", List.of(ARGUMENT, STATE));
        ALLOWED.put("cheapest", List.of(ARGUMENT, STATE));
        ALLOWED.put("charge", List.of(ARGUMENT, UNSUPPORTED, STATE));
        ALLOWED.put("tap", List.of(ARGUMENT, STATE, UNSUPPORTED));
        ALLOWED.put("treat", List.of(ARGUMENT, STATE, UNSUPPORTED));
        ALLOWED.put("mould", List.of(NONE, UNSUPPORTED, STATE));
        ALLOWED.put("pour", List.of(NONE, STATE, UNSUPPORTED));
        ALLOWED.put("weld", List.of(OUTSIDE, UNSUPPORTED, STATE));
        ALLOWED.put("deliver", List.of(OUTSIDE, STATE));
        ALLOWED.put("breakUp", List.of(OUTSIDE, STATE));
        ALLOWED.put("goodShare", List.of(ARITHMETIC));
        ALLOWED.put("meanBar", List.of(ARITHMETIC));
    }

    /**
     * The twin gets the same calls, the spared one only those that the works answered, and the naive works reckons all
     * of them a second time.
     */
    private static void oneRun(int seed, Map<String, Integer> seen) {
        Ironpour works = new Ironpour();
        Ironpour twin = new Ironpour();
        Ironpour spared = new Ironpour();
        NaiveWorks naive = new NaiveWorks();
        Random random = new Random(seed);
        if (seed % 2 == 0) {
            for (Object[] box : new Object[][] {{'g', 4, 0, 3, 1}, {'r', 4, 1, 3, 4}, {'c', 5, 5, 1, 1}}) {
                for (Object each : new Object[] {works, twin, spared, naive}) {
                    answer(each, "draw", box);
                }
            }
        }
        String[] names = ALLOWED.keySet().stream().sorted().toArray(String[]::new);
        String before = Snapshot.of(works) + Inside.of(works);
        for (int call = 0; call < 512; call++) {
            String name = seed % 4 == 0 ? busy(random, names) : often(random, names);
            Object[] numbers = argumentsOf(name, random, works.castings());
            String what = "run " + seed + ", call " + call + ", " + name + Arrays.toString(numbers);
            String answer = answer(works, name, numbers);
            Check.same(what + " by the twin", answer(twin, name, numbers), answer);
            Check.same(what + " by the naive one", answer, answer(naive, name, numbers));
            String after = Snapshot.of(works) + Inside.of(works);
            if (answer.startsWith("throws ")) {
                String thrown = answer.substring(7);
                Check.yes(what + " may throw " + thrown, ALLOWED.get(name).contains(thrown));
                Check.same("the works behind " + what, after, before);
                seen.merge(name + " " + thrown, 1, Integer::sum);
            } else {
                Check.same(what + " by the spared one", answer(spared, name, numbers), answer);
                seen.merge(name + " answers", 1, Integer::sum);
            }
            Check.yes("isSound behind " + what, works.isSound());
            before = after;
        }
        Check.same("what the spared one holds", Inside.of(spared), Inside.of(works));
        compareAtTheEnd(works, naive);
    }

    private static void compareAtTheEnd(Ironpour works, NaiveWorks naive) {
        for (String name : new String[] {"undercut", "cores", "loose", "weight", "speed", "goodCores", "castings",
            "worst", "delivered", "goodShare", "meanBar"}) {
            compare(works, naive, name);
        }
        String[][] letters = {{"sand", "cwkfbsd"}, {"furnace", "csmp"}, {"ladle", "whm"}, {"pool", "gd"},
            {"cheapest", "psf"}};
        for (String[] each : letters) {
            for (char letter : each[1].toCharArray()) {
                compare(works, naive, each[0], letter);
            }
        }
        for (char element : "csmp".toCharArray()) {
            compare(works, naive, "poolHas", 'g', element);
            compare(works, naive, "poolHas", 'd', element);
            for (int i = 0; i < 30; i++) {
                compare(works, naive, "has", i, element);
            }
        }
        for (int i = 0; i < 30; i++) {
            for (String name : new String[] {"waiting", "alloy", "faults", "shrunkIn", "bar"}) {
                compare(works, naive, name, i);
            }
        }
    }

    private static void compare(Ironpour works, NaiveWorks naive, String name, Object... numbers) {
        String what = name + Arrays.toString(numbers) + " at the end";
        Check.same(what, answer(works, name, numbers), answer(naive, name, numbers));
    }

    /** The calls that bring a works on are wanted more often than the others. */
    private static String often(Random random, String[] names) {
        String[] wanted = {"charge", "tap", "treat", "mould", "mould", "pour", "pour", "makeCores", "hours", "pig",
            "weld", "breakUp", "deliver", "mill", "draw"};
        int which = random.nextInt(names.length + wanted.length * 2);
        return which < names.length ? names[which] : wanted[(which - names.length) % wanted.length];
    }

    /** Mostly pouring, so that there are 30 castings at last. */
    private static String busy(Random random, String[] names) {
        String[] pouring = {"charge", "tap", "mould", "pour", "pour"};
        return random.nextInt(10) < 7 ? pouring[random.nextInt(5)] : often(random, names);
    }

    private static String answer(Object asked, String name, Object[] numbers) {
        for (Method method : asked.getClass().getDeclaredMethods()) {
            if (Modifier.isPublic(method.getModifiers()) && method.getName().equals(name)) {
                try {
                    return String.valueOf(method.invoke(asked, numbers));
                } catch (InvocationTargetException thrown) {
                    boolean byItself = asked instanceof NaiveWorks || Check.isThrownByWorks(thrown.getCause());
                    Check.yes(name + " throws " + thrown.getCause() + " by itself", byItself);
                    return "throws " + thrown.getCause().getClass().getSimpleName();
                } catch (IllegalAccessException wrong) {
                    throw new IllegalStateException(wrong);
                }
            }
        }
        throw new IllegalStateException(name);
    }

    /** Mostly in the range, now and then beyond it. */
    private static Integer number(Random random, int least, int most) {
        int kind = random.nextInt(40);
        if (kind == 0) {
            return random.nextInt();
        }
        if (kind == 1) {
            return least - 1;
        }
        if (kind == 2) {
            return most + 1;
        }
        return least + random.nextInt(most - least + 1);
    }

    private static Character letter(Random random, String letters) {
        return random.nextInt(25) == 0 ? (char) random.nextInt(300) : letters.charAt(random.nextInt(letters.length()));
    }

    private static Object[] argumentsOf(String name, Random random, int castings) {
        Integer x = number(random, 0, 11);
        Integer y = number(random, 0, 8);
        Integer heat = number(random, 1200, 1500);
        Integer casting = number(random, 0, Math.max(0, castings - 1));
        switch (name) {
            case "draw": return new Object[] {letter(random, "..crgok"), x, y, 1 + random.nextInt(3),
                1 + random.nextInt(3)};
            case "cell": case "filledIn": return new Object[] {x, y};
            case "frozenIn": case "isFed": return new Object[] {x, y, heat};
            case "heatAt": return new Object[] {x, y, heat, number(random, 0, random.nextBoolean() ? 20 : 400)};
            case "part": return new Object[] {number(random, 1, 8)};
            case "shrunk": case "shrunkAnew": case "lastPlace": case "bestFeeder": return new Object[] {heat};
            case "mill": return new Object[] {number(random, 0, 20), number(random, 0, 20), number(random, 0, 20),
                number(random, 0, 50)};
            case "sand": return new Object[] {letter(random, "cwkfbsd")};
            case "makeCores": return new Object[] {number(random, 1, 10), number(random, 1, 24)};
            case "hours": return new Object[] {number(random, 1, random.nextInt(9) == 0 ? 48 : 3)};
            case "alloy": case "faults": case "shrunkIn": case "bar": case "weld": case "deliver": case "breakUp":
                return new Object[] {casting};
            case "has": return new Object[] {casting, letter(random, "csmp")};
            default: return argumentsOfMetal(name, random);
        }
    }

    private static Object[] argumentsOfMetal(String name, Random random) {
        switch (name) {
            case "charge": return new Object[] {letter(random, "psfkgd"), number(random, 1, 1000)};
            case "furnace": return new Object[] {letter(random, "csmp")};
            case "hold": return new Object[] {number(random, 1, 120)};
            case "tap": return new Object[] {number(random, 1, 500)};
            case "treat": return new Object[] {number(random, 1, random.nextBoolean() ? 20 : 100)};
            case "minutes": return new Object[] {number(random, 1, random.nextBoolean() ? 10 : 60)};
            case "ladle": return new Object[] {letter(random, "whm")};
            case "pool": return new Object[] {letter(random, "gd")};
            case "poolHas": return new Object[] {letter(random, "gd"), letter(random, "csmp")};
            case "leastCost": return new Object[] {number(random, 0, 450), number(random, 0, 450),
                number(random, 0, 200), number(random, 1, 1000), number(random, 1, 1000), number(random, 1, 1000)};
            case "cheapest": return new Object[] {letter(random, "psf")};
            case "waiting": return new Object[] {number(random, 0, 9)};
            default: return new Object[0];
        }
    }
}
