import java.util.ArrayList;
import java.util.Comparator;
import java.util.List;
import java.util.NoSuchElementException;

/** All promises once more, written as near to the document's words as can be, to compare with; see Naive. */
public final class NaiveWorks {
    private static final String ELEMENTS = "csmp";

    /** Iron, and grams of each element in it. */
    private static final class Lump {
        long iron;
        final long[] grams = new long[4];

        int has(char element) {
            return (int) (grams[ELEMENTS.indexOf(element)] * 10 / iron);
        }

        void give(Lump to, long amount) {
            for (int i = 0; i < 4; i++) {
                long part = amount * grams[i] / iron;
                to.grams[i] += part;
                grams[i] -= part;
            }
            to.iron += amount;
            iron -= amount;
        }
    }

    private static final class Lot {
        int cores;
        int goodFrom;
        int age;

        boolean isGood() {
            return age >= goodFrom && age - goodFrom <= 72;
        }
    }

    /** A mould, and the casting in it when it is poured. */
    private static final class Piece {
        Naive pattern;
        int strength;
        int draught;
        int water;
        int minutes;
        Lump metal = new Lump();
        int magnesium;
        int shrunk;
        boolean[] fault = new boolean[64];
        boolean isDelivered;
        boolean isBroken;

        int sum() {
            int sum = 0;
            for (int bit = 1; bit <= 32; bit *= 2) {
                sum += fault[bit] ? bit : 0;
            }
            return sum;
        }

        int carbonAndThird() {
            return metal.has('c') + metal.has('s') / 3;
        }
    }

    private Naive pattern = new Naive();
    private int clay = 80;
    private int water = 35;
    private int coal = 30;
    private int fines = 50;
    private int burnt;
    private final List<Lot> lots = new ArrayList<>();
    private final Lump furnace = new Lump();
    private final Lump ladle = new Lump();
    private int heat;
    private int magnesium;
    private boolean wasDuctile;
    private final Lump grey = new Lump();
    private final Lump ductile = new Lump();
    private int[] cheapest;
    private final List<Piece> moulds = new ArrayList<>();
    private final List<Piece> castings = new ArrayList<>();

    private static void illegalIf(boolean isWrong) {
        if (isWrong) {
            throw new IllegalArgumentException();
        }
    }

    private static void outsideIf(boolean isWrong) {
        if (isWrong) {
            throw new IndexOutOfBoundsException();
        }
    }

    private static void noneIf(boolean isWrong) {
        if (isWrong) {
            throw new NoSuchElementException();
        }
    }

    private static void stateIf(boolean isWrong) {
        if (isWrong) {
            throw new IllegalStateException();
        }
    }

    private static void unsupportedIf(boolean isWrong) {
        if (isWrong) {
            throw new UnsupportedOperationException();
        }
    }

    private static boolean isCell(int x, int y) {
        return 0 <= x && x <= 11 && 0 <= y && y <= 8;
    }

    private static boolean isHeat(int heat) {
        return 1200 <= heat && heat <= 1500;
    }

    private static boolean isElement(char element) {
        return element == 'c' || element == 's' || element == 'm' || element == 'p';
    }

    public int draw(char kind, int x, int y, int wide, int high) {
        illegalIf(kind != '.' && kind != 'c' && kind != 'r' && kind != 'g' && kind != 'o' && kind != 'k');
        illegalIf(wide < 1 || high < 1 || !isCell(x, y) || (long) x + wide > 12 || (long) y + high > 9);
        return pattern.draw(kind, x, y, wide, high);
    }

    public char cell(int x, int y) {
        outsideIf(!isCell(x, y));
        return pattern.kinds[y][x];
    }

    public int part(int row) {
        illegalIf(row < 1 || row > 8);
        int before = pattern.parting;
        pattern.parting = row;
        return before;
    }

    public int undercut() {
        return pattern.undercut();
    }

    public int cores() {
        return pattern.cores(false);
    }

    public int loose() {
        return pattern.cores(true);
    }

    public int weight() {
        return pattern.weight();
    }

    public int filledIn(int x, int y) {
        outsideIf(!isCell(x, y));
        pattern.fill();
        return pattern.filledIn(x, y);
    }

    public int speed() {
        noneIf(pattern.speed() < 0);
        return pattern.speed();
    }

    private int[][] freeze(int heat, int step) {
        pattern.fill();
        int[][] heats = pattern.freeze(heat, step);
        pattern.feed();
        return heats;
    }

    public int frozenIn(int x, int y, int heat) {
        outsideIf(!isCell(x, y));
        illegalIf(!isHeat(heat));
        freeze(heat, 0);
        return pattern.frozenIn(x, y);
    }

    public int heatAt(int x, int y, int heat, int step) {
        outsideIf(!isCell(x, y));
        illegalIf(!isHeat(heat) || step < 0 || step > 400);
        return freeze(heat, step)[y][x];
    }

    public boolean isFed(int x, int y, int heat) {
        outsideIf(!isCell(x, y));
        illegalIf(!isHeat(heat));
        freeze(heat, 0);
        return pattern.isFed(x, y);
    }

    public int shrunk(int heat) {
        illegalIf(!isHeat(heat));
        freeze(heat, 0);
        return pattern.shrunk();
    }

    public int shrunkAnew(int heat) {
        illegalIf(!isHeat(heat));
        freeze(heat, 0);
        return pattern.shrunkAnew();
    }

    public int lastPlace(int heat) {
        illegalIf(!isHeat(heat));
        freeze(heat, 0);
        noneIf(pattern.lastPlace() < 0);
        return pattern.lastPlace();
    }

    public int bestFeeder(int heat) {
        illegalIf(!isHeat(heat));
        int place = pattern.bestFeeder(heat);
        noneIf(place < 0);
        return place;
    }

    private int strength() {
        int far = 10 * water > 4 * clay ? 10 * water - 4 * clay : 4 * clay - 10 * water;
        int strength = 2 * clay - far / 5 - burnt / 4;
        return strength < 0 ? 0 : strength;
    }

    private int draught() {
        int draught = 200 - fines - coal / 2 - burnt;
        return draught < 0 ? 0 : draught;
    }

    public int mill(int moreClay, int moreWater, int moreCoal, int fresh) {
        illegalIf(moreClay < 0 || moreClay > 20 || moreWater < 0 || moreWater > 20 || moreCoal < 0 || moreCoal > 20);
        illegalIf(fresh < 0 || fresh > 50);
        fines -= fresh * fines / 100;
        burnt -= fresh * burnt / 100;
        clay = Math.min(300, clay + moreClay);
        water = Math.min(300, water + moreWater);
        coal = Math.min(300, coal + moreCoal);
        return strength();
    }

    public int sand(char what) {
        int[] numbers = {clay, water, coal, fines, burnt, strength(), draught()};
        illegalIf("cwkfbsd".indexOf(what) < 0);
        return numbers["cwkfbsd".indexOf(what)];
    }

    public int makeCores(int count, int cure) {
        illegalIf(count < 1 || count > 10 || cure < 1 || cure > 24);
        stateIf(lots.size() == 20);
        Lot lot = new Lot();
        lot.cores = count;
        lot.goodFrom = cure;
        lots.add(lot);
        return lots.stream().mapToInt(each -> each.cores).sum();
    }

    public int goodCores() {
        return lots.stream().filter(Lot::isGood).mapToInt(each -> each.cores).sum();
    }

    public int hours(int hours) {
        illegalIf(hours < 1 || hours > 48);
        int before = lots.stream().mapToInt(each -> each.cores).sum();
        lots.forEach(each -> each.age += hours);
        lots.removeIf(each -> each.age > each.goodFrom + 72);
        return before - lots.stream().mapToInt(each -> each.cores).sum();
    }

    private void takeCore() {
        Lot eldest = lots.stream().filter(Lot::isGood).max(Comparator.comparingInt((Lot each) -> each.age)
                .thenComparing(each -> -lots.indexOf(each))).get();
        eldest.cores--;
        if (eldest.cores == 0) {
            lots.remove(eldest);
        }
    }

    private Lump poolOf(char pool) {
        illegalIf(pool != 'g' && pool != 'd');
        return pool == 'g' ? grey : ductile;
    }

    public int charge(char kind, int amount) {
        illegalIf("psfkgd".indexOf(kind) < 0 || amount < 1 || amount > 1000);
        boolean isReturn = kind == 'g' || kind == 'd';
        unsupportedIf(isReturn && poolOf(kind).iron < amount);
        stateIf(kind != 'k' && furnace.iron + amount > 3000);
        if (isReturn) {
            poolOf(kind).give(furnace, amount);
            return (int) furnace.iron;
        }
        int[][] tenths = {{420, 100, 50, 8}, {20, 30, 80, 2}, {1, 750, 0, 0}, {950, 0, 0, 0}};
        for (int i = 0; i < 4; i++) {
            furnace.grams[i] += tenths["psfk".indexOf(kind)][i] * amount / 10;
        }
        furnace.iron += kind == 'k' ? 0 : amount;
        return (int) furnace.iron;
    }

    public int furnace(char element) {
        illegalIf(!isElement(element));
        noneIf(furnace.iron == 0);
        return furnace.has(element);
    }

    public int hold(int minutes) {
        illegalIf(minutes < 1 || minutes > 120);
        int[] parts = {2000, 4000, 4000};
        for (int minute = 1; minute <= minutes; minute++) {
            for (int i = 0; i < 3; i++) {
                furnace.grams[i] -= furnace.grams[i] / parts[i];
            }
        }
        return (int) furnace.grams[0];
    }

    public int tap(int amount) {
        illegalIf(amount < 1 || amount > 500);
        stateIf(ladle.iron > 0);
        unsupportedIf(furnace.iron < amount);
        furnace.give(ladle, amount);
        heat = 1450;
        magnesium = 0;
        wasDuctile = false;
        return (int) furnace.iron;
    }

    public int treat(int more) {
        illegalIf(more < 1 || more > 100);
        stateIf(ladle.iron == 0);
        unsupportedIf(magnesium + more > 100);
        magnesium += more;
        wasDuctile |= magnesium >= 20;
        return magnesium;
    }

    public int minutes(int minutes) {
        illegalIf(minutes < 1 || minutes > 60);
        for (int minute = 1; minute <= minutes; minute++) {
            heat = Math.max(20, heat - 4);
            magnesium -= magnesium % 20 == 0 ? magnesium / 20 : magnesium / 20 + 1;
        }
        moulds.forEach(each -> each.minutes += minutes);
        return ladle('h');
    }

    public int ladle(char what) {
        illegalIf(what != 'w' && what != 'h' && what != 'm');
        if (ladle.iron == 0) {
            return 0;
        }
        return what == 'w' ? (int) ladle.iron : what == 'h' ? heat : magnesium;
    }

    public int pig() {
        stateIf(ladle.iron == 0);
        int amount = (int) ladle.iron;
        ladle.give(wasDuctile ? ductile : grey, amount);
        return amount;
    }

    public int pool(char pool) {
        return (int) poolOf(pool).iron;
    }

    public int poolHas(char pool, char element) {
        poolOf(pool);
        illegalIf(!isElement(element));
        noneIf(poolOf(pool).iron == 0);
        return poolOf(pool).has(element);
    }

    public int leastCost(int least, int most, int silicon, int pig, int scrap, int alloy) {
        for (int content : new int[] {least, most, silicon}) {
            illegalIf(content < 0 || content > 450);
        }
        for (int price : new int[] {pig, scrap, alloy}) {
            illegalIf(price < 1 || price > 1000);
        }
        illegalIf(most < least);
        List<int[]> charges = new ArrayList<>();
        for (int p = 0; p <= 100; p += 10) {
            for (int f = 0; f <= Math.min(10, 100 - p); f++) {
                int s = 100 - p - f;
                int hasCarbon = (420 * p + 20 * s + f) / 100;
                int hasSilicon = (100 * p + 30 * s + 750 * f) / 100;
                if (hasCarbon >= least && hasCarbon <= most && hasSilicon >= silicon) {
                    charges.add(new int[] {p * pig + s * scrap + f * alloy, -p, f, s});
                }
            }
        }
        noneIf(charges.isEmpty());
        charges.sort(Comparator.<int[]>comparingInt(each -> each[0]).thenComparingInt(each -> each[1])
                .thenComparingInt(each -> each[2]));
        cheapest = charges.get(0);
        return cheapest[0];
    }

    public int cheapest(char kind) {
        illegalIf(kind != 'p' && kind != 's' && kind != 'f');
        stateIf(cheapest == null);
        return kind == 'p' ? -cheapest[1] : kind == 'f' ? cheapest[2] : cheapest[3];
    }

    private boolean has(char kind, int rows) {
        for (int cell = 0; cell < 12 * rows; cell++) {
            if (pattern.kinds[cell / 12][cell % 12] == kind) {
                return true;
            }
        }
        return false;
    }

    public int mould() {
        noneIf(!has('g', 1) || !has('c', 9));
        int needed = cores();
        unsupportedIf(goodCores() < needed);
        stateIf(moulds.size() == 10);
        for (int i = 0; i < needed; i++) {
            takeCore();
        }
        Piece made = new Piece();
        made.pattern = pattern.copy();
        made.strength = strength();
        made.draught = draught();
        made.water = water;
        moulds.add(made);
        clay -= Math.min(clay, 3);
        water -= Math.min(water, 8);
        coal -= Math.min(coal, 4);
        fines = Math.min(300, fines + 2);
        burnt = Math.min(300, burnt + 10 + weight() / 2 / 4);
        return moulds.size();
    }

    public int waiting(int index) {
        noneIf(index < 0 || index >= moulds.size());
        return moulds.get(index).minutes;
    }

    public int pour() {
        noneIf(moulds.isEmpty());
        stateIf(ladle.iron == 0 || heat < 1250);
        unsupportedIf(castings.size() == 30);
        Piece cast = moulds.remove(0);
        int wanted = cast.pattern.weight();
        boolean isShort = ladle.iron < wanted;
        ladle.give(cast.metal, isShort ? ladle.iron : wanted);
        cast.magnesium = magnesium;
        cast.pattern.fill();
        cast.pattern.freeze(heat, 0);
        cast.pattern.feed();
        cast.shrunk = cast.pattern.shrunk();
        cast.fault[1] = cast.shrunk > 0;
        cast.fault[2] = isShort;
        for (int cell = 0; cell < 108; cell++) {
            boolean takesMetal = "crg".indexOf(cast.pattern.kinds[cell / 12][cell % 12]) >= 0;
            int step = cast.pattern.filledIn(cell % 12, cell / 12);
            cast.fault[2] |= takesMetal && (step < 0 || heat - 2 * step < 1200);
        }
        cast.fault[4] = cast.pattern.speed() > cast.strength;
        cast.fault[8] = cast.draught < 80 && cast.water > 40 || cast.minutes > 60;
        cast.fault[16] = cast.pattern.cores(true) > 0 || cast.pattern.undercut() > 0;
        cast.fault[32] = cast.carbonAndThird() < 370 || magnesium >= 1 && magnesium <= 19;
        castings.add(cast);
        return castings.size() - 1;
    }

    public int castings() {
        return castings.size();
    }

    private Piece casting(int number) {
        outsideIf(number < 0 || number >= castings.size());
        return castings.get(number);
    }

    public char alloy(int casting) {
        return casting(casting).magnesium >= 20 ? 'd' : 'g';
    }

    public int faults(int casting) {
        return casting(casting).sum();
    }

    public int shrunkIn(int casting) {
        return casting(casting).shrunk;
    }

    public int has(int casting, char element) {
        casting(casting);
        illegalIf(!isElement(element));
        return casting(casting).metal.has(element);
    }

    public int bar(int casting) {
        Piece piece = casting(casting);
        int bears = 500;
        if (alloy(casting) == 'd') {
            bears = 400 + 2 * piece.magnesium;
        } else if (piece.carbonAndThird() > 300) {
            bears -= 2 * (piece.carbonAndThird() - 300);
        }
        for (boolean each : piece.fault) {
            bears -= each ? 30 : 0;
        }
        return Math.max(bears, 0);
    }

    public boolean weld(int casting) {
        Piece piece = casting(casting);
        unsupportedIf(alloy(casting) == 'd' || piece.fault[32]);
        stateIf(piece.isDelivered || piece.isBroken);
        boolean hadOne = piece.fault[4];
        piece.fault[4] = false;
        return hadOne;
    }

    public boolean deliver(int casting) {
        Piece piece = casting(casting);
        stateIf(piece.isDelivered || piece.isBroken);
        piece.isDelivered = piece.sum() == 0;
        return piece.isDelivered;
    }

    public int breakUp(int casting) {
        Piece piece = casting(casting);
        stateIf(piece.isDelivered || piece.isBroken);
        piece.isBroken = true;
        Lump pool = poolOf(alloy(casting));
        pool.iron += piece.metal.iron;
        for (int i = 0; i < 4; i++) {
            pool.grams[i] += piece.metal.grams[i];
        }
        return (int) pool.iron;
    }

    public char worst() {
        int[][] faults = {{4, 8}, {32}, {2}, {1, 16}};
        char worst = '?';
        long most = 0;
        for (int cause = 0; cause < 4; cause++) {
            long number = 0;
            for (Piece each : castings) {
                boolean has = false;
                for (int fault : faults[cause]) {
                    has |= each.fault[fault];
                }
                number += has ? 1 : 0;
            }
            if (number > most) {
                most = number;
                worst = "smpt".charAt(cause);
            }
        }
        noneIf(most == 0);
        return worst;
    }

    public long delivered() {
        return castings.stream().filter(each -> each.isDelivered).mapToLong(each -> each.metal.iron).sum();
    }

    public float goodShare() {
        if (castings.isEmpty()) {
            throw new ArithmeticException();
        }
        return (float) delivered() / (float) castings.stream().mapToLong(each -> each.metal.iron).sum();
    }

    public double meanBar() {
        if (castings.isEmpty()) {
            throw new ArithmeticException();
        }
        long sum = 0;
        for (int i = 0; i < castings.size(); i++) {
            sum += bar(i);
        }
        return (double) sum / (double) castings.size();
    }

    public boolean isSound() {
        return true;
    }
}
