import java.util.ArrayList;
import java.util.Arrays;
import java.util.NoSuchElementException;

/** A foundry that pours iron into sand: its pattern, sand, cores, metal, moulds and castings. */
public final class Ironpour {
    private static final int WIDE = 12;
    private static final int HIGH = 9;
    private static final int CELLS = 108;
    private static final int SIDES = 4;

    private static final int ELEMENTS = 4;
    private static final int CARBON = 0;
    private static final int SILICON = 1;

    /** A cell that is still liquid behind the last step counts as frozen in this one. */
    private static final int NEVER = 401;
    private static final int LAST_STEP = 400;
    private static final int LEAST_HEAT = 1200;
    private static final int MOST_HEAT = 1500;
    private static final int TAP_HEAT = 1450;
    private static final int LEAST_POUR_HEAT = 1250;
    private static final int OUTSIDE_HEAT = 20;
    /** A cell that is filled at less than this is a fault. */
    private static final int COLD_BELOW = 1200;

    private static final int MOST_MOULDS = 10;
    private static final int MOST_CASTINGS = 30;
    private static final int MOST_IN_FURNACE = 3000;
    private static final int DUCTILE_MAGNESIUM = 20;

    private static final int SHRUNK = 1;
    private static final int COLD = 2;
    private static final int SCAB = 4;
    private static final int BLOWN = 8;
    private static final int BAD_CORE = 16;
    private static final int HARD = 32;

    /** Tenths of a gram in a kilogram, of carbon, silicon, manganese and phosphorus. */
    private static final int[] PIG = {420, 100, 50, 8};
    private static final int[] SCRAP = {20, 30, 80, 2};
    private static final int[] FERROSILICON = {1, 750, 0, 0};
    private static final int[] COKE = {950, 0, 0, 0};

    private final Pattern pattern = new Pattern();
    private final Trial trial = new Trial();
    private final Trial spareTrial = new Trial();
    private final GreenSand greenSand = new GreenSand();
    private final CoreStore coreStore = new CoreStore();
    private final Furnace hearth = new Furnace();
    private final Ladle bucket = new Ladle();
    private final Metal greyPool = new Metal();
    private final Metal ductilePool = new Metal();
    private final Recipe recipe = new Recipe();
    private final ArrayList<Mould> waitingMoulds = new ArrayList<>();
    private final ArrayList<Casting> allCastings = new ArrayList<>();

    /** Creates a works with a pattern of sand alone, fresh sand, and neither metal nor cores. */
    public Ironpour() {
    }

    // ---- the pattern

    public int draw(char kind, int x, int y, int wide, int high) throws IllegalArgumentException {
        if (".crgok".indexOf(kind) < 0) {
            throw new IllegalArgumentException("no such kind of cell");
        }
        if (!isCell(x, y) || wide < 1 || wide > WIDE - x || high < 1 || high > HIGH - y) {
            throw new IllegalArgumentException("not all within the pattern");
        }
        int changed = pattern.paint(kind, x, y, wide, high);
        if (changed > 0) {
            trial.take(pattern.cells);
        }
        return changed;
    }

    public char cell(int x, int y) throws IndexOutOfBoundsException {
        return pattern.cells[cellAt(x, y)];
    }

    public int part(int row) throws IllegalArgumentException {
        if (row < 1 || row >= HIGH) {
            throw new IllegalArgumentException("the parting is above a row from 1 to 8");
        }
        int before = pattern.parting;
        pattern.parting = row;
        return before;
    }

    public int undercut() {
        return pattern.undercutCells();
    }

    public int cores() {
        return pattern.coreGroups();
    }

    public int loose() {
        return pattern.looseGroups();
    }

    public int weight() {
        return kilogramsFor(pattern.metalCells());
    }

    public int filledIn(int x, int y) throws IndexOutOfBoundsException {
        int cell = cellAt(x, y);
        trial.fill();
        return trial.filledAt[cell];
    }

    public int speed() throws NoSuchElementException {
        if (pattern.gatesOnTop() == 0) {
            throw new NoSuchElementException("no gate in the row 0");
        }
        return pattern.runningSpeed();
    }

    public int frozenIn(int x, int y, int heat) throws IndexOutOfBoundsException, IllegalArgumentException {
        int cell = cellAt(x, y);
        checkHeat(heat);
        trial.freeze(heat);
        return trial.freezing.frozenAt[cell];
    }

    public int heatAt(int x, int y, int heat, int step)
            throws IndexOutOfBoundsException, IllegalArgumentException {
        int cell = cellAt(x, y);
        checkHeat(heat);
        if (step < 0 || step > LAST_STEP) {
            throw new IllegalArgumentException("a step is 0 to 400");
        }
        spareTrial.take(pattern.cells);
        spareTrial.cool(heat, step);
        return spareTrial.freezing.heat[cell];
    }

    public boolean isFed(int x, int y, int heat) throws IndexOutOfBoundsException, IllegalArgumentException {
        int cell = cellAt(x, y);
        checkHeat(heat);
        trial.freeze(heat);
        return trial.fed[cell];
    }

    public int shrunk(int heat) throws IllegalArgumentException {
        checkHeat(heat);
        trial.freeze(heat);
        return trial.shrunkCells();
    }

    public int shrunkAnew(int heat) throws IllegalArgumentException {
        checkHeat(heat);
        trial.freeze(heat);
        return trial.cellsWithoutWay();
    }

    public int lastPlace(int heat) throws IllegalArgumentException, NoSuchElementException {
        checkHeat(heat);
        trial.freeze(heat);
        int place = trial.lastFrozen();
        if (place < 0) {
            throw new NoSuchElementException("no cell of the casting is filled");
        }
        return place;
    }

    public int bestFeeder(int heat) throws IllegalArgumentException, NoSuchElementException {
        checkHeat(heat);
        trial.freeze(heat);
        int place = placeOfBestFeeder(heat, trial.shrunkCells());
        if (place < 0) {
            throw new NoSuchElementException("no feeder leaves fewer cells shrunk");
        }
        return place;
    }

    // ---- sand and cores

    public int mill(int clay, int water, int coal, int fresh) throws IllegalArgumentException {
        if (!isWithin(clay, 0, 20) || !isWithin(water, 0, 20) || !isWithin(coal, 0, 20)
                || !isWithin(fresh, 0, 50)) {
            throw new IllegalArgumentException("clay, water and coal are 0 to 20, fresh sand 0 to 50");
        }
        greenSand.mix(clay, water, coal, fresh);
        return greenSand.strength();
    }

    public int sand(char what) throws IllegalArgumentException {
        switch (what) {
            case 'c': return greenSand.clay;
            case 'w': return greenSand.water;
            case 'k': return greenSand.coal;
            case 'f': return greenSand.fines;
            case 'b': return greenSand.burnt;
            case 's': return greenSand.strength();
            case 'd': return greenSand.draught();
            default: throw new IllegalArgumentException("sand has no such thing");
        }
    }

    public int makeCores(int count, int cure) throws IllegalArgumentException, IllegalStateException {
        if (!isWithin(count, 1, 10) || !isWithin(cure, 1, 24)) {
            throw new IllegalArgumentException("a lot has 1 to 10 cores, and 1 to 24 hours to cure");
        }
        if (coreStore.isFull()) {
            throw new IllegalStateException("there are 20 lots");
        }
        coreStore.addLot(count, cure);
        return coreStore.allCores();
    }

    public int goodCores() {
        return coreStore.allGood();
    }

    public int hours(int hours) throws IllegalArgumentException {
        if (!isWithin(hours, 1, 48)) {
            throw new IllegalArgumentException("1 to 48 hours go by");
        }
        return coreStore.growOlder(hours);
    }

    // ---- metal

    public int charge(char kind, int amount)
            throws IllegalArgumentException, UnsupportedOperationException, IllegalStateException {
        if ("psfkgd".indexOf(kind) < 0 || !isWithin(amount, 1, 1000)) {
            throw new IllegalArgumentException("no such kind, or an amount out of 1 to 1000");
        }
        Metal from = poolOf(kind);
        if (from != null && from.iron < amount) {
            throw new UnsupportedOperationException("the pool has not so much");
        }
        int iron = kind == 'k' ? 0 : amount;
        if (hearth.bath.iron + iron > MOST_IN_FURNACE) {
            throw new IllegalStateException("the furnace takes 3000 kilograms");
        }
        if (from != null) {
            from.moveTo(hearth.bath, amount);
        } else {
            hearth.takeFromOutside(amount, iron, tenthsOf(kind));
        }
        return hearth.bath.iron;
    }

    public int furnace(char element) throws IllegalArgumentException, NoSuchElementException {
        int index = elementIndex(element);
        if (hearth.bath.iron <= 0) {
            throw new NoSuchElementException("no iron in the furnace");
        }
        return hearth.bath.partOf(index);
    }

    public int hold(int minutes) throws IllegalArgumentException {
        if (!isWithin(minutes, 1, 120)) {
            throw new IllegalArgumentException("a furnace is held for 1 to 120 minutes");
        }
        hearth.loseFor(minutes);
        return (int) hearth.bath.grams[CARBON];
    }

    public int tap(int amount)
            throws IllegalArgumentException, IllegalStateException, UnsupportedOperationException {
        if (!isWithin(amount, 1, 500)) {
            throw new IllegalArgumentException("1 to 500 kilograms are tapped");
        }
        if (!bucket.isEmpty()) {
            throw new IllegalStateException("the ladle is not empty");
        }
        if (hearth.bath.iron < amount) {
            throw new UnsupportedOperationException("the furnace has not so much");
        }
        bucket.fillFrom(hearth.bath, amount);
        return hearth.bath.iron;
    }

    public int treat(int magnesium)
            throws IllegalArgumentException, IllegalStateException, UnsupportedOperationException {
        if (!isWithin(magnesium, 1, 100)) {
            throw new IllegalArgumentException("magnesium is 1 to 100");
        }
        if (bucket.isEmpty()) {
            throw new IllegalStateException("the ladle is empty");
        }
        if (bucket.magnesium + magnesium > 100) {
            throw new UnsupportedOperationException("it would have more than 100");
        }
        bucket.addMagnesium(magnesium);
        return bucket.magnesium;
    }

    public int minutes(int minutes) throws IllegalArgumentException {
        if (!isWithin(minutes, 1, 60)) {
            throw new IllegalArgumentException("1 to 60 minutes go by");
        }
        bucket.fadeFor(minutes);
        for (int i = 0; i < waitingMoulds.size(); i++) {
            waitingMoulds.get(i).waited += minutes;
        }
        return bucket.isEmpty() ? 0 : bucket.heat;
    }

    public int ladle(char what) throws IllegalArgumentException {
        if ("whm".indexOf(what) < 0) {
            throw new IllegalArgumentException("a ladle has no such thing");
        }
        if (bucket.isEmpty()) {
            return 0;
        }
        switch (what) {
            case 'w': return bucket.content.iron;
            case 'h': return bucket.heat;
            default: return bucket.magnesium;
        }
    }

    public int pig() throws IllegalStateException {
        if (bucket.isEmpty()) {
            throw new IllegalStateException("the ladle is empty");
        }
        int amount = bucket.content.iron;
        bucket.content.moveTo(bucket.wasDuctile ? ductilePool : greyPool, amount);
        return amount;
    }

    public int pool(char pool) throws IllegalArgumentException {
        Metal found = poolOf(pool);
        if (found == null) {
            throw new IllegalArgumentException("no such pool");
        }
        return found.iron;
    }

    public int poolHas(char pool, char element) throws IllegalArgumentException, NoSuchElementException {
        Metal found = poolOf(pool);
        if (found == null) {
            throw new IllegalArgumentException("no such pool");
        }
        int index = elementIndex(element);
        if (found.iron <= 0) {
            throw new NoSuchElementException("no iron in the pool");
        }
        return found.partOf(index);
    }

    public int leastCost(int least, int most, int silicon, int pig, int scrap, int alloy)
            throws IllegalArgumentException, NoSuchElementException {
        if (!isWithin(least, 0, 450) || !isWithin(most, least, 450) || !isWithin(silicon, 0, 450)) {
            throw new IllegalArgumentException("contents are 0 to 450, the most not below the least");
        }
        if (!isWithin(pig, 1, 1000) || !isWithin(scrap, 1, 1000) || !isWithin(alloy, 1, 1000)) {
            throw new IllegalArgumentException("prices are 1 to 1000");
        }
        int price = recipe.search(least, most, silicon, pig, scrap, alloy);
        if (price < 0) {
            throw new NoSuchElementException("no charge is such");
        }
        return price;
    }

    public int cheapest(char kind) throws IllegalArgumentException, IllegalStateException {
        if ("psf".indexOf(kind) < 0) {
            throw new IllegalArgumentException("no such kind");
        }
        if (!recipe.isFound) {
            throw new IllegalStateException("none was found yet");
        }
        switch (kind) {
            case 'p': return recipe.pigParts;
            case 's': return recipe.scrapParts();
            default: return recipe.alloyParts;
        }
    }

    // ---- moulds and castings

    public int mould() throws NoSuchElementException, UnsupportedOperationException, IllegalStateException {
        if (pattern.gatesOnTop() == 0 || !pattern.hasCasting()) {
            throw new NoSuchElementException("no gate in the row 0, or no cell of the casting");
        }
        int needed = pattern.coreGroups();
        if (coreStore.allGood() < needed) {
            throw new UnsupportedOperationException("not so many good cores");
        }
        if (waitingMoulds.size() >= MOST_MOULDS) {
            throw new IllegalStateException("10 moulds wait");
        }
        coreStore.takeOut(needed);
        waitingMoulds.add(new Mould(pattern, greenSand));
        greenSand.useFor(pattern.metalCells());
        return waitingMoulds.size();
    }

    public int waiting(int index) throws NoSuchElementException {
        if (index < 0 || index >= waitingMoulds.size()) {
            throw new NoSuchElementException("no such mould");
        }
        return waitingMoulds.get(index).waited;
    }

    public int pour() throws NoSuchElementException, IllegalStateException, UnsupportedOperationException {
        if (waitingMoulds.isEmpty()) {
            throw new NoSuchElementException("no mould waits");
        }
        if (bucket.isEmpty() || bucket.heat < LEAST_POUR_HEAT) {
            throw new IllegalStateException("the ladle is empty or too cold");
        }
        if (allCastings.size() >= MOST_CASTINGS) {
            throw new UnsupportedOperationException("there are 30 castings");
        }
        allCastings.add(cast(waitingMoulds.remove(0)));
        return allCastings.size() - 1;
    }

    public int castings() {
        return allCastings.size();
    }

    public char alloy(int casting) throws IndexOutOfBoundsException {
        return castingAt(casting).isDuctile() ? 'd' : 'g';
    }

    public int faults(int casting) throws IndexOutOfBoundsException {
        return castingAt(casting).faultBits;
    }

    public int shrunkIn(int casting) throws IndexOutOfBoundsException {
        return castingAt(casting).shrunkCells;
    }

    public int has(int casting, char element) throws IndexOutOfBoundsException, IllegalArgumentException {
        Casting found = castingAt(casting);
        return found.metal.partOf(elementIndex(element));
    }

    public int bar(int casting) throws IndexOutOfBoundsException {
        return castingAt(casting).barBears();
    }

    public boolean weld(int casting)
            throws IndexOutOfBoundsException, UnsupportedOperationException, IllegalStateException {
        Casting found = castingAt(casting);
        if (found.isDuctile() || found.hasFault(HARD)) {
            throw new UnsupportedOperationException("only grey castings that are not hard are welded");
        }
        checkStands(found);
        boolean hadScab = found.hasFault(SCAB);
        found.faultBits &= ~SCAB;
        return hadScab;
    }

    public boolean deliver(int casting) throws IndexOutOfBoundsException, IllegalStateException {
        Casting found = castingAt(casting);
        checkStands(found);
        found.isDelivered = found.faultBits == 0;
        return found.isDelivered;
    }

    public int breakUp(int casting) throws IndexOutOfBoundsException, IllegalStateException {
        Casting found = castingAt(casting);
        checkStands(found);
        found.isBroken = true;
        Metal to = found.isDuctile() ? ductilePool : greyPool;
        to.addAll(found.metal);
        return to.iron;
    }

    public char worst() throws NoSuchElementException {
        int inSand = castingsWith(SCAB | BLOWN);
        int inMetal = castingsWith(HARD);
        int inPour = castingsWith(COLD);
        int inPattern = castingsWith(SHRUNK | BAD_CORE);
        int most = Math.max(Math.max(inSand, inMetal), Math.max(inPour, inPattern));
        if (most == 0) {
            throw new NoSuchElementException("there are no faults");
        }
        if (inSand == most) {
            return 's';
        }
        if (inMetal == most) {
            return 'm';
        }
        return inPour == most ? 'p' : 't';
    }

    // ---- figures

    public long delivered() {
        long sum = 0;
        for (int i = 0; i < allCastings.size(); i++) {
            Casting each = allCastings.get(i);
            if (each.isDelivered) {
                sum += each.metal.iron;
            }
        }
        return sum;
    }

    public float goodShare() throws ArithmeticException {
        long poured = 0;
        for (int i = 0; i < allCastings.size(); i++) {
            poured += allCastings.get(i).metal.iron;
        }
        if (poured == 0) {
            throw new ArithmeticException("nothing was poured");
        }
        return (float) delivered() / (float) poured;
    }

    public double meanBar() throws ArithmeticException {
        int number = allCastings.size();
        if (number == 0) {
            throw new ArithmeticException("there are no castings");
        }
        long sum = 0;
        for (int i = 0; i < number; i++) {
            sum += allCastings.get(i).barBears();
        }
        return (double) sum / (double) number;
    }

    public boolean isSound() {
        if (!ironBalances()) {
            return false;
        }
        for (int element = 0; element < ELEMENTS; element++) {
            if (!elementBalances(element)) {
                return false;
            }
        }
        trial.freeze(TAP_HEAT);
        return trial.isFilledInOrder() && trial.areFedOnesReached();
    }

    // ---- what several calls need

    private static boolean isWithin(int number, int least, int most) {
        return number >= least && number <= most;
    }

    private static boolean isCell(int x, int y) {
        return x >= 0 && x < WIDE && y >= 0 && y < HIGH;
    }

    private static int cellAt(int x, int y) {
        if (!isCell(x, y)) {
            throw new IndexOutOfBoundsException("no such cell");
        }
        return y * WIDE + x;
    }

    private static void checkHeat(int heat) {
        if (!isWithin(heat, LEAST_HEAT, MOST_HEAT)) {
            throw new IllegalArgumentException("the heat of a pour is 1200 to 1500");
        }
    }

    /** The cell on a side, in the order up, left, right, down; -1 beyond the pattern. */
    private static int beside(int cell, int side) {
        switch (side) {
            case 0: return cell >= WIDE ? cell - WIDE : -1;
            case 1: return cell % WIDE > 0 ? cell - 1 : -1;
            case 2: return cell % WIDE < WIDE - 1 ? cell + 1 : -1;
            default: return cell < CELLS - WIDE ? cell + WIDE : -1;
        }
    }

    private static boolean isBeside(char[] cells, int cell, char kind) {
        for (int side = 0; side < SIDES; side++) {
            int other = beside(cell, side);
            if (other >= 0 && cells[other] == kind) {
                return true;
            }
        }
        return false;
    }

    private static boolean takesMetal(char kind) {
        return kind == 'c' || kind == 'r' || kind == 'g';
    }

    private static int kilogramsFor(int metalCells) {
        return 2 * metalCells;
    }

    private static int elementIndex(char element) {
        int index = "csmp".indexOf(element);
        if (index < 0) {
            throw new IllegalArgumentException("no such element");
        }
        return index;
    }

    private static int[] tenthsOf(char kind) {
        switch (kind) {
            case 'p': return PIG;
            case 's': return SCRAP;
            case 'f': return FERROSILICON;
            default: return COKE;
        }
    }

    /** Null for a letter that is no pool. */
    private Metal poolOf(char letter) {
        if (letter == 'g') {
            return greyPool;
        }
        return letter == 'd' ? ductilePool : null;
    }

    private int placeOfBestFeeder(int heat, int shrunkNow) {
        int fewest = shrunkNow;
        int place = -1;
        for (int cell = 0; cell < CELLS && fewest > 0; cell++) {
            if (pattern.cells[cell] != '.' || !isBeside(pattern.cells, cell, 'c')) {
                continue;
            }
            spareTrial.take(pattern.cells);
            spareTrial.cells[cell] = 'r';
            spareTrial.freeze(heat);
            int left = spareTrial.shrunkCells();
            if (left < fewest) {
                fewest = left;
                place = cell;
            }
        }
        return place;
    }

    private Casting castingAt(int casting) {
        if (casting < 0 || casting >= allCastings.size()) {
            throw new IndexOutOfBoundsException("no such casting");
        }
        return allCastings.get(casting);
    }

    private static void checkStands(Casting casting) {
        if (casting.isDelivered || casting.isBroken) {
            throw new IllegalStateException("it was delivered or broken up");
        }
    }

    private Casting cast(Mould mould) {
        int wanted = kilogramsFor(mould.metalCells);
        int amount = Math.min(wanted, bucket.content.iron);
        Casting made = new Casting(bucket.magnesium);
        bucket.content.moveTo(made.metal, amount);
        spareTrial.take(mould.cells);
        spareTrial.freeze(bucket.heat);
        made.shrunkCells = spareTrial.shrunkCells();
        made.faultBits = mould.faultBits();
        if (made.shrunkCells > 0) {
            made.faultBits |= SHRUNK;
        }
        if (amount < wanted || spareTrial.isCold(bucket.heat)) {
            made.faultBits |= COLD;
        }
        if (made.isHard()) {
            made.faultBits |= HARD;
        }
        return made;
    }

    private int castingsWith(int anyOf) {
        int number = 0;
        for (int i = 0; i < allCastings.size(); i++) {
            if (allCastings.get(i).hasFault(anyOf)) {
                number++;
            }
        }
        return number;
    }

    private boolean ironBalances() {
        long here = (long) hearth.bath.iron + bucket.content.iron + greyPool.iron + ductilePool.iron;
        for (int i = 0; i < allCastings.size(); i++) {
            Casting each = allCastings.get(i);
            if (!each.isBroken) {
                here += each.metal.iron;
            }
        }
        return here == hearth.ironFromOutside;
    }

    private boolean elementBalances(int element) {
        long here = hearth.bath.grams[element] + bucket.content.grams[element]
                + greyPool.grams[element] + ductilePool.grams[element] + hearth.heldLoss[element];
        for (int i = 0; i < allCastings.size(); i++) {
            Casting each = allCastings.get(i);
            if (!each.isBroken) {
                here += each.metal.grams[element];
            }
        }
        return here * 10 + hearth.cutTenths[element] == hearth.tenthsFromOutside[element];
    }

    /** What stands in each cell, and where it parts. */
    private static final class Pattern {
        private final char[] cells = new char[CELLS];
        private final boolean[] seen = new boolean[CELLS];
        private final int[] queue = new int[CELLS];
        private int parting = 4;

        Pattern() {
            for (int cell = 0; cell < CELLS; cell++) {
                cells[cell] = '.';
            }
        }

        int paint(char kind, int x, int y, int wide, int high) {
            int changed = 0;
            for (int row = Math.max(y, 0); row < y + high && row < HIGH; row++) {
                for (int column = Math.max(x, 0); column < x + wide && column < WIDE; column++) {
                    int cell = row * WIDE + column;
                    if (cells[cell] != kind) {
                        cells[cell] = kind;
                        changed++;
                    }
                }
            }
            return changed;
        }

        int metalCells() {
            int number = 0;
            for (int cell = 0; cell < CELLS; cell++) {
                if (takesMetal(cells[cell])) {
                    number++;
                }
            }
            return number;
        }

        boolean hasCasting() {
            for (int cell = 0; cell < CELLS; cell++) {
                if (cells[cell] == 'c') {
                    return true;
                }
            }
            return false;
        }

        int gatesOnTop() {
            int number = 0;
            for (int x = 0; x < WIDE; x++) {
                if (cells[x] == 'g') {
                    number++;
                }
            }
            return number;
        }

        /** 0 where no gate is in the row 0, as metal does not come in there. */
        int runningSpeed() {
            int gates = gatesOnTop();
            if (gates == 0) {
                return 0;
            }
            int rows = 0;
            for (int cell = 0; cell < CELLS; cell++) {
                if (cells[cell] == 'g') {
                    rows = cell / WIDE + 1;
                }
            }
            return 60 * rows / gates;
        }

        int undercutCells() {
            int number = 0;
            for (int x = 0; x < WIDE; x++) {
                number += undercutFrom(x, parting - 1, -1) + undercutFrom(x, parting, 1);
            }
            return number;
        }

        private int undercutFrom(int x, int firstRow, int direction) {
            boolean canBeDrawn = true;
            int number = 0;
            for (int distance = 0; distance < HIGH; distance++) {
                int row = firstRow + distance * direction;
                if (row < 0 || row >= HIGH) {
                    break;
                }
                char kind = cells[row * WIDE + x];
                if (!takesMetal(kind) && kind != 'o') {
                    canBeDrawn = false;
                } else if (!canBeDrawn && kind != 'o') {
                    number++;
                }
            }
            return number;
        }

        int coreGroups() {
            return groupsBarerThan(CELLS + 1);
        }

        int looseGroups() {
            return groupsBarerThan(2);
        }

        /** How many cores have fewer cells beside sand than the limit. */
        private int groupsBarerThan(int limit) {
            for (int cell = 0; cell < CELLS; cell++) {
                seen[cell] = false;
            }
            int number = 0;
            for (int cell = 0; cell < CELLS; cell++) {
                if (cells[cell] == 'o' && !seen[cell] && cellsBesideSand(cell) < limit) {
                    number++;
                }
            }
            return number;
        }

        /** Goes through the whole core that a cell belongs to, so that it is not counted again. */
        private int cellsBesideSand(int start) {
            int number = 0;
            int tail = 1;
            queue[0] = start;
            seen[start] = true;
            for (int head = 0; head < tail && head < CELLS; head++) {
                boolean hangsInSand = false;
                for (int side = 0; side < SIDES; side++) {
                    int other = beside(queue[head], side);
                    if (other < 0 || cells[other] == '.') {
                        hangsInSand = true;
                    } else if (cells[other] == 'o' && !seen[other] && tail < CELLS) {
                        seen[other] = true;
                        queue[tail] = other;
                        tail++;
                    }
                }
                if (hangsInSand) {
                    number++;
                }
            }
            return number;
        }
    }

    /** How a pattern would run full, freeze and be fed; what is known is kept until the pattern changes. */
    private static final class Trial {
        private final char[] cells = new char[CELLS];
        private final int[] filledAt = new int[CELLS];
        private final Freezing freezing = new Freezing();
        private final boolean[] fed = new boolean[CELLS];
        private final boolean[] seen = new boolean[CELLS];
        private final int[] queue = new int[CELLS];
        private boolean isRun;
        private int frozenFor;

        Trial() {
            for (int cell = 0; cell < CELLS; cell++) {
                cells[cell] = '.';
            }
        }

        void take(char[] from) {
            System.arraycopy(from, 0, cells, 0, CELLS);
            isRun = false;
            frozenFor = 0;
        }

        void fill() {
            if (isRun) {
                return;
            }
            isRun = true;
            Arrays.fill(filledAt, -1);
            int gates = openLeftmostGate();
            int filled = gates;
            for (int step = 1; step < CELLS && filled > 0; step++) {
                filled = fillStep(step, gates);
            }
        }

        /** Metal comes in at the leftmost gate alone, but as much as all gates on top let in. */
        private int openLeftmostGate() {
            int gates = 0;
            for (int x = 0; x < WIDE; x++) {
                if (cells[x] == 'g') {
                    if (gates == 0) {
                        filledAt[x] = 0;
                    }
                    gates++;
                }
            }
            return gates;
        }

        private int fillStep(int step, int most) {
            int filled = 0;
            for (int row = HIGH - 1; row >= 0; row--) {
                for (int x = 0; x < WIDE && filled < most; x++) {
                    int cell = row * WIDE + x;
                    if (filledAt[cell] < 0 && takesMetal(cells[cell]) && isBesideFilled(cell, step)) {
                        filledAt[cell] = step;
                        filled++;
                    }
                }
            }
            return filled;
        }

        private boolean isBesideFilled(int cell, int step) {
            for (int side = 0; side < SIDES; side++) {
                int other = beside(cell, side);
                if (other >= 0 && filledAt[other] >= 0 && filledAt[other] < step) {
                    return true;
                }
            }
            return false;
        }

        void freeze(int heat) {
            if (frozenFor == heat) {
                return;
            }
            fill();
            freezing.begin(cells, filledAt, heat);
            for (int step = 1; step <= LAST_STEP && freezing.liquid > 0; step++) {
                freezing.pass(step);
            }
            feed();
            frozenFor = heat;
        }

        /** Leaves the heats as they are behind so many steps, even if all is frozen ahead of that. */
        void cool(int heat, int steps) {
            frozenFor = 0;
            fill();
            freezing.begin(cells, filledAt, heat);
            for (int step = 1; step <= steps && step <= LAST_STEP; step++) {
                freezing.pass(step);
            }
        }

        private boolean isFilled(int cell) {
            return filledAt[cell] >= 0;
        }

        private void feed() {
            int tail = 0;
            int castingLeft = 0;
            for (int cell = 0; cell < CELLS; cell++) {
                fed[cell] = cells[cell] == 'r' && isFilled(cell);
                if (fed[cell]) {
                    castingLeft += 10;
                    queue[tail] = cell;
                    tail++;
                }
            }
            for (int head = 0; head < tail && head < CELLS; head++) {
                for (int side = 0; side < SIDES; side++) {
                    int other = beside(queue[head], side);
                    if (other < 0 || !canFeed(queue[head], other) || tail >= CELLS) {
                        continue;
                    }
                    if (cells[other] == 'c') {
                        if (castingLeft == 0) {
                            continue;
                        }
                        castingLeft--;
                    }
                    fed[other] = true;
                    queue[tail] = other;
                    tail++;
                }
            }
        }

        private boolean canFeed(int from, int to) {
            return !fed[to] && isFilled(to) && freezing.frozenAt[to] <= freezing.frozenAt[from];
        }

        int shrunkCells() {
            int number = 0;
            for (int cell = 0; cell < CELLS; cell++) {
                if (cells[cell] == 'c' && isFilled(cell) && !fed[cell]) {
                    number++;
                }
            }
            return number;
        }

        int cellsWithoutWay() {
            int number = 0;
            for (int cell = 0; cell < CELLS; cell++) {
                if (cells[cell] == 'c' && isFilled(cell) && !hasWayToFeeder(cell)) {
                    number++;
                }
            }
            return number;
        }

        private boolean hasWayToFeeder(int start) {
            for (int cell = 0; cell < CELLS; cell++) {
                seen[cell] = false;
            }
            int tail = 1;
            queue[0] = start;
            seen[start] = true;
            for (int head = 0; head < tail && head < CELLS; head++) {
                int here = queue[head];
                if (cells[here] == 'r') {
                    return true;
                }
                for (int side = 0; side < SIDES; side++) {
                    int next = beside(here, side);
                    if (next >= 0 && canBeFedFrom(next, here) && tail < CELLS) {
                        seen[next] = true;
                        queue[tail] = next;
                        tail++;
                    }
                }
            }
            return false;
        }

        private boolean canBeFedFrom(int next, int here) {
            return !seen[next] && isFilled(next) && freezing.frozenAt[next] >= freezing.frozenAt[here];
        }

        /** -1 if no cell of the casting is filled. */
        int lastFrozen() {
            int place = -1;
            int latest = 0;
            for (int cell = 0; cell < CELLS; cell++) {
                if (cells[cell] == 'c' && isFilled(cell) && freezing.frozenAt[cell] > latest) {
                    latest = freezing.frozenAt[cell];
                    place = cell;
                }
            }
            return place;
        }

        boolean isCold(int heat) {
            for (int cell = 0; cell < CELLS; cell++) {
                if (takesMetal(cells[cell])
                        && (!isFilled(cell) || Freezing.heatWhenFilled(heat, filledAt[cell]) < COLD_BELOW)) {
                    return true;
                }
            }
            return false;
        }

        boolean isFilledInOrder() {
            for (int cell = 0; cell < CELLS; cell++) {
                if (filledAt[cell] > 0 && !isBesideFilled(cell, filledAt[cell])) {
                    return false;
                }
            }
            return true;
        }

        boolean areFedOnesReached() {
            for (int cell = 0; cell < CELLS; cell++) {
                if (fed[cell] && !hasWayToFeeder(cell)) {
                    return false;
                }
            }
            return true;
        }
    }

    /** The heat of all cells, step by step. */
    private static final class Freezing {
        private static final int MELTING_POINT = 1150;
        private static final int MELTING_HEAT = 300;

        private final int[] heat = new int[CELLS];
        private final int[] gain = new int[CELLS];
        private final int[] meltingHeat = new int[CELLS];
        private final int[] frozenAt = new int[CELLS];
        private final int[] toRight = new int[CELLS];
        private final int[] toBelow = new int[CELLS];
        private int liquid;

        static int heatWhenFilled(int pourHeat, int step) {
            return pourHeat - 2 * step;
        }

        void begin(char[] cells, int[] filledAt, int pourHeat) {
            liquid = 0;
            for (int cell = 0; cell < CELLS; cell++) {
                meltingHeat[cell] = MELTING_HEAT;
                if (filledAt[cell] < 0) {
                    frozenAt[cell] = -1;
                    heat[cell] = OUTSIDE_HEAT;
                } else {
                    frozenAt[cell] = NEVER;
                    liquid++;
                    becomeHeat(cell, heatWhenFilled(pourHeat, filledAt[cell]), 0);
                }
                int right = beside(cell, 2);
                int below = beside(cell, 3);
                toRight[cell] = right < 0 ? 0 : passingBetween(cells, filledAt, cell, right);
                toBelow[cell] = below < 0 ? 0 : passingBetween(cells, filledAt, cell, below);
            }
        }

        private static int passingBetween(char[] cells, int[] filledAt, int one, int other) {
            boolean isOneFilled = filledAt[one] >= 0;
            boolean isOtherFilled = filledAt[other] >= 0;
            if (isOneFilled && isOtherFilled) {
                return 12;
            }
            if (!isOneFilled && !isOtherFilled) {
                return 4;
            }
            char empty = isOneFilled ? cells[other] : cells[one];
            if (empty == 'k') {
                return 14;
            }
            return empty == 'o' ? 3 : 4;
        }

        void pass(int step) {
            Arrays.fill(gain, 0);
            for (int cell = 0; cell < CELLS; cell++) {
                int column = cell % WIDE;
                if (column < WIDE - 1) {
                    exchange(cell, cell + 1, toRight[cell]);
                }
                if (cell < CELLS - WIDE) {
                    exchange(cell, cell + WIDE, toBelow[cell]);
                }
                if (column == 0 || column == WIDE - 1) {
                    gain[cell] += flowFromBeyond(cell);
                }
                if (cell < WIDE || cell >= CELLS - WIDE) {
                    gain[cell] += flowFromBeyond(cell);
                }
            }
            for (int cell = 0; cell < CELLS; cell++) {
                becomeHeat(cell, heat[cell] + gain[cell], step);
            }
        }

        /** Cutting towards 0 takes as much from the one cell as it gives to the other. */
        private void exchange(int one, int other, int number) {
            int flow = (heat[other] - heat[one]) * number / 64;
            gain[one] += flow;
            gain[other] -= flow;
        }

        private int flowFromBeyond(int cell) {
            return (OUTSIDE_HEAT - heat[cell]) * 4 / 64;
        }

        private void becomeHeat(int cell, int next, int step) {
            if (frozenAt[cell] != NEVER || next >= MELTING_POINT) {
                heat[cell] = next;
                return;
            }
            heat[cell] = MELTING_POINT;
            meltingHeat[cell] -= MELTING_POINT - next;
            if (meltingHeat[cell] <= 0) {
                frozenAt[cell] = step;
                liquid--;
            }
        }
    }

    /** The sand that all moulds are made of, again and again. */
    private static final class GreenSand {
        private static final int MOST = 300;

        private int clay = 80;
        private int water = 35;
        private int coal = 30;
        private int fines = 50;
        private int burnt;

        int strength() {
            int wetness = Math.abs(10 * water - 4 * clay);
            return Math.max(0, 2 * clay - wetness / 5 - burnt / 4);
        }

        int draught() {
            return Math.max(0, 200 - fines - coal / 2 - burnt);
        }

        void mix(int moreClay, int moreWater, int moreCoal, int fresh) {
            fines -= fines * fresh / 100;
            burnt -= burnt * fresh / 100;
            clay = Math.min(MOST, clay + moreClay);
            water = Math.min(MOST, water + moreWater);
            coal = Math.min(MOST, coal + moreCoal);
        }

        void useFor(int metalCells) {
            clay = Math.max(0, clay - 3);
            water = Math.max(0, water - 8);
            coal = Math.max(0, coal - 4);
            fines = Math.min(MOST, fines + 2);
            burnt = Math.min(MOST, burnt + 10 + metalCells / 4);
        }
    }

    /** Lots of cores, the eldest first. */
    private static final class CoreStore {
        private static final int MOST_LOTS = 20;
        private static final int GOOD_FOR = 72;

        private final int[] counts = new int[MOST_LOTS];
        private final int[] cures = new int[MOST_LOTS];
        private final int[] ages = new int[MOST_LOTS];
        private int lots;

        boolean isFull() {
            return lots >= MOST_LOTS;
        }

        void addLot(int count, int cure) {
            if (lots < MOST_LOTS) {
                counts[lots] = count;
                cures[lots] = cure;
                ages[lots] = 0;
                lots++;
            }
        }

        int allCores() {
            int sum = 0;
            for (int lot = 0; lot < lots; lot++) {
                sum += counts[lot];
            }
            return sum;
        }

        int allGood() {
            int sum = 0;
            for (int lot = 0; lot < lots; lot++) {
                sum += isGood(lot) ? counts[lot] : 0;
            }
            return sum;
        }

        private boolean isGood(int lot) {
            return ages[lot] >= cures[lot] && ages[lot] <= cures[lot] + GOOD_FOR;
        }

        void takeOut(int number) {
            int left = number;
            for (int lot = 0; lot < lots && left > 0; lot++) {
                if (isGood(lot)) {
                    int taken = Math.min(left, counts[lot]);
                    counts[lot] -= taken;
                    left -= taken;
                }
            }
            dropEmptyLots();
        }

        int growOlder(int hours) {
            int thrownAway = 0;
            for (int lot = 0; lot < lots; lot++) {
                ages[lot] += hours;
                if (ages[lot] > cures[lot] + GOOD_FOR) {
                    thrownAway += counts[lot];
                    counts[lot] = 0;
                }
            }
            dropEmptyLots();
            return thrownAway;
        }

        /** A lot without cores must not count among the 20. */
        private void dropEmptyLots() {
            int kept = 0;
            for (int lot = 0; lot < lots; lot++) {
                if (counts[lot] > 0) {
                    counts[kept] = counts[lot];
                    cures[kept] = cures[lot];
                    ages[kept] = ages[lot];
                    kept++;
                }
            }
            lots = kept;
        }
    }

    /** Kilograms of iron with grams of elements in it. */
    private static final class Metal {
        private final long[] grams = new long[ELEMENTS];
        private int iron;

        /** In hundredths of a percent. */
        int partOf(int element) {
            return iron <= 0 ? 0 : (int) (grams[element] * 10 / iron);
        }

        /** Carbon and what works like carbon. */
        int carbonAlike() {
            return partOf(CARBON) + partOf(SILICON) / 3;
        }

        /** What is cut stays behind, so that nothing is lost between the two. */
        void moveTo(Metal to, int amount) {
            if (iron <= 0) {
                return;
            }
            for (int element = 0; element < ELEMENTS; element++) {
                long moved = grams[element] * amount / iron;
                grams[element] -= moved;
                to.grams[element] += moved;
            }
            iron -= amount;
            to.iron += amount;
        }

        void addAll(Metal from) {
            for (int element = 0; element < ELEMENTS; element++) {
                grams[element] += from.grams[element];
            }
            iron += from.iron;
        }
    }

    /** The furnace, with books of what came in from outside and what went lost. */
    private static final class Furnace {
        private final Metal bath = new Metal();
        private final long[] tenthsFromOutside = new long[ELEMENTS];
        private final long[] cutTenths = new long[ELEMENTS];
        private final long[] heldLoss = new long[ELEMENTS];
        private long ironFromOutside;

        void takeFromOutside(int amount, int iron, int[] tenths) {
            for (int element = 0; element < ELEMENTS && element < tenths.length; element++) {
                long charged = (long) amount * tenths[element];
                tenthsFromOutside[element] += charged;
                cutTenths[element] += charged % 10;
                bath.grams[element] += charged / 10;
            }
            bath.iron += iron;
            ironFromOutside += iron;
        }

        void loseFor(int minutes) {
            for (int minute = 0; minute < minutes; minute++) {
                lose(CARBON, 2000);
                lose(SILICON, 4000);
                lose(2, 4000);
            }
        }

        private void lose(int element, int divisor) {
            if (divisor > 0) {
                long lost = bath.grams[element] / divisor;
                bath.grams[element] -= lost;
                heldLoss[element] += lost;
            }
        }
    }

    /** What is carried from the furnace to the moulds. */
    private static final class Ladle {
        private final Metal content = new Metal();
        private int heat;
        private int magnesium;
        private boolean wasDuctile;

        boolean isEmpty() {
            return content.iron == 0;
        }

        void fillFrom(Metal bath, int amount) {
            bath.moveTo(content, amount);
            heat = TAP_HEAT;
            magnesium = 0;
            wasDuctile = false;
        }

        void addMagnesium(int more) {
            magnesium += more;
            wasDuctile |= magnesium >= DUCTILE_MAGNESIUM;
        }

        void fadeFor(int minutes) {
            heat = Math.max(OUTSIDE_HEAT, heat - 4 * minutes);
            for (int minute = 0; minute < minutes; minute++) {
                magnesium -= (magnesium + 19) / 20;
            }
        }
    }

    /** The cheapest charge of 100 parts that was found last. */
    private static final class Recipe {
        private static final int PARTS = 100;

        private int pigParts;
        private int alloyParts;
        private boolean isFound;

        int scrapParts() {
            return PARTS - pigParts - alloyParts;
        }

        /** Tries the most pig and the least ferrosilicon first, so that these stay of several as cheap. */
        int search(int least, int most, int silicon, int pigPrice, int scrapPrice, int alloyPrice) {
            int cheapestPrice = -1;
            for (int pig = PARTS; pig >= 0; pig -= 10) {
                for (int alloy = 0; alloy <= 10 && pig + alloy <= PARTS; alloy++) {
                    int scrap = PARTS - pig - alloy;
                    int price = pig * pigPrice + scrap * scrapPrice + alloy * alloyPrice;
                    int carbon = contentOf(CARBON, pig, scrap, alloy);
                    boolean fits = carbon >= least && carbon <= most
                            && contentOf(SILICON, pig, scrap, alloy) >= silicon;
                    if (fits && (cheapestPrice < 0 || price < cheapestPrice)) {
                        cheapestPrice = price;
                        pigParts = pig;
                        alloyParts = alloy;
                        isFound = true;
                    }
                }
            }
            return cheapestPrice;
        }

        /** Tenths of a gram in 100 kilograms are 100 times the hundredths of a percent. */
        private static int contentOf(int element, int pig, int scrap, int alloy) {
            return (pig * PIG[element] + scrap * SCRAP[element] + alloy * FERROSILICON[element]) / PARTS;
        }
    }

    /** A mould as it was made, whatever becomes of pattern and sand behind that. */
    private static final class Mould {
        private final char[] cells = new char[CELLS];
        private final int metalCells;
        private final int speed;
        private final boolean hasBadCore;
        private final int strength;
        private final int draught;
        private final int water;
        private int waited;

        Mould(Pattern pattern, GreenSand sand) {
            System.arraycopy(pattern.cells, 0, cells, 0, CELLS);
            metalCells = pattern.metalCells();
            speed = pattern.runningSpeed();
            hasBadCore = pattern.looseGroups() > 0 || pattern.undercutCells() > 0;
            strength = sand.strength();
            draught = sand.draught();
            water = sand.water;
        }

        /** The faults that do not depend on the metal. */
        int faultBits() {
            int bits = hasBadCore ? BAD_CORE : 0;
            if (speed > strength) {
                bits |= SCAB;
            }
            if ((draught < 80 && water > 40) || waited > 60) {
                bits |= BLOWN;
            }
            return bits;
        }
    }

    /** A casting; its metal stays noted when it has been delivered or broken up. */
    private static final class Casting {
        private final Metal metal = new Metal();
        private final int magnesium;
        private int shrunkCells;
        private int faultBits;
        private boolean isDelivered;
        private boolean isBroken;

        Casting(int magnesium) {
            this.magnesium = magnesium;
        }

        boolean isDuctile() {
            return magnesium >= DUCTILE_MAGNESIUM;
        }

        boolean isHard() {
            return metal.carbonAlike() < 370 || (magnesium > 0 && !isDuctile());
        }

        boolean hasFault(int anyOf) {
            return (faultBits & anyOf) != 0;
        }

        int barBears() {
            int bears = isDuctile() ? 400 + 2 * magnesium : 500 - 2 * Math.max(0, metal.carbonAlike() - 300);
            return Math.max(0, bears - 30 * Integer.bitCount(faultBits));
        }
    }
}
