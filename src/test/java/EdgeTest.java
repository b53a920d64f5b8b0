import java.util.NoSuchElementException;

/**
 * The edges that the document's terms name, sentence by sentence: the last case on the one side and the first one on
 * the other. Numbers that stand here were reckoned by hand.
 */
final class EdgeTest {
    private static final Class<NoSuchElementException> NONE = NoSuchElementException.class;

    public static void main(String[] arguments) {
        drawnUpToTheFirstOther();
        looseIfFewerThanTwo();
        beyondThePatternIsSand();
        metalComesInAtTheLeftmostGate();
        asManyInAStepAsGates();
        lowestFirstThenFromTheLeft();
        speedIsCut();
        passesBetweenCells();
        passesBeyondThePattern();
        cutTowardsNought();
        frozenAtNoughtOfMeltingHeat();
        frozenByLateFilling();
        frozenWithin400Steps();
        feedsWhatDoesNotFreezeLater();
        tenCellsForAFeeder();
        furtherOnesDoNotLeadOn();
        feedersInOrderAndTheirSides();
        ownWayWithoutEnd();
        bestFeederBesideCasting();
        Check.end("EdgeTest");
    }

    /** A column of the casting with one cell in it that is another one. */
    private static void drawnUpToTheFirstOther() {
        for (int parting = 1; parting <= 8; parting++) {
            for (int row = 0; row < 9; row++) {
                int column = (parting + row) % 12;
                for (char kind : ".kcrgo".toCharArray()) {
                    Ironpour x = new Ironpour();
                    x.draw('c', column, 0, 1, 9);
                    x.draw(kind, column, row, 1, 1);
                    x.part(parting);
                    int beyond = row < parting ? row : 8 - row;
                    int due = kind == '.' || kind == 'k' ? beyond : 0;
                    Check.same("undercut, " + kind + " in row " + row + ", parting " + parting, x.undercut(), due);
                }
            }
        }
        Ironpour x = new Ironpour();
        x.draw('o', 3, 0, 1, 9);
        x.draw('k', 3, 3, 1, 2);
        Check.same("cores beyond it are not undercut", x.undercut(), 0);
        x.draw('g', 3, 0, 1, 1);
        x.draw('r', 3, 8, 1, 1);
        Check.same("gates and feeders beyond it are", x.undercut(), 2);
    }

    private static void looseIfFewerThanTwo() {
        Ironpour x = new Ironpour();
        Check.same("no core, none loose", x.cores() + x.loose(), 0);
        x.draw('o', 5, 4, 1, 1);
        Check.same("a single cell in sand", x.loose(), 1);
        x.draw('o', 6, 4, 1, 1);
        Check.same("two cells in sand", x.loose(), 0);
        x.draw('c', 4, 3, 4, 3);
        x.draw('o', 5, 4, 2, 1);
        Check.same("none beside sand", x.loose(), 1);
        x.draw('.', 5, 3, 1, 1);
        Check.same("one beside sand", x.loose(), 1);
        x.draw('.', 5, 5, 1, 1);
        Check.same("the same one twice", x.loose(), 1);
        x.draw('k', 6, 3, 1, 1);
        Check.same("the other one beside a chill", x.loose(), 1);
        x.draw('.', 6, 3, 1, 1);
        Check.same("both beside sand", x.loose(), 0);
        x.draw('o', 0, 0, 12, 9);
        Check.same("all of it is one core", x.cores(), 1);
        Check.same("and hangs in the sand beyond", x.loose(), 0);
        for (int i = 0; i < 108; i++) {
            x.draw((i % 12 + i / 12) % 2 == 0 ? 'o' : '.', i % 12, i / 12, 1, 1);
        }
        Check.same("corners do not hang together", x.cores(), 54);
        Check.same("each is alone", x.loose(), 54);
    }

    private static void beyondThePatternIsSand() {
        int[][] places = {{0, 4, 0, 5}, {11, 4, 11, 5}, {5, 0, 6, 0}, {5, 8, 6, 8}};
        for (int[] at : places) {
            Ironpour x = new Ironpour();
            x.draw('c', 0, 0, 12, 9);
            x.draw('o', at[0], at[1], 1, 1);
            Check.same("one cell at the edge", x.loose(), 1);
            x.draw('o', at[2], at[3], 1, 1);
            Check.same("two cells at the edge", x.loose(), 0);
        }
        Ironpour x = new Ironpour();
        x.draw('c', 0, 0, 12, 9);
        x.draw('o', 1, 1, 10, 7);
        Check.same("no cell at the edge", x.loose(), 1);
        x.draw('o', 0, 4, 1, 1);
        Check.same("one cell at the edge", x.loose(), 1);
        x.draw('o', 11, 4, 1, 1);
        Check.same("one at each edge", x.loose(), 0);
    }

    private static void metalComesInAtTheLeftmostGate() {
        for (int column = 0; column < 12; column++) {
            Ironpour x = new Ironpour();
            x.draw('g', column, 0, 12 - column, 1);
            Check.same("the first step", x.filledIn(column, 0), 0);
            for (int other = 0; other < 12; other++) {
                Check.same("one by one from the left", x.filledIn(other, 0), Math.max(-1, other - column));
            }
        }
        Ironpour apart = new Ironpour();
        apart.draw('g', 2, 0, 1, 2);
        apart.draw('g', 4, 0, 8, 2);
        Check.same("the left one is filled", apart.filledIn(2, 1), 1);
        Check.same("those apart are not", apart.filledIn(4, 0), -1);
        Check.same("nor at the other end", apart.filledIn(11, 1), -1);
        Ironpour below = new Ironpour();
        below.draw('g', 0, 1, 12, 8);
        Check.same("no gate on top, nothing filled", below.filledIn(0, 1), -1);
        below.draw('c', 5, 0, 1, 1);
        Check.same("nor through others on top", below.filledIn(5, 0), -1);
    }

    private static void asManyInAStepAsGates() {
        for (int gates = 1; gates <= 12; gates++) {
            Ironpour x = new Ironpour();
            x.draw('c', 0, 0, 12, 9);
            x.draw('g', 12 - gates, 0, gates, 1);
            int[] filled = new int[109];
            for (int cell = 0; cell < 108; cell++) {
                int step = x.filledIn(cell % 12, cell / 12);
                Check.yes("all are filled at last", step >= 0 && step < 109);
                filled[Math.max(0, step)]++;
            }
            Check.same("the first step fills one", filled[0], 1);
            int most = 0;
            for (int each : filled) {
                most = Math.max(most, each);
            }
            Check.yes("no more in a step than " + gates, most <= gates);
            Check.yes("as many, where there is room", gates > 9 || most == gates);
        }
        Ironpour snake = new Ironpour();
        snake.draw('g', 0, 0, 1, 1);
        snake.draw('c', 1, 0, 11, 9);
        snake.draw('c', 0, 1, 1, 8);
        int last = 0;
        for (int cell = 0; cell < 108; cell++) {
            last = Math.max(last, snake.filledIn(cell % 12, cell / 12));
        }
        Check.same("one in a step: the last one in step 107", last, 107);
    }

    private static void lowestFirstThenFromTheLeft() {
        Ironpour x = new Ironpour();
        x.draw('g', 5, 0, 2, 1);
        x.draw('r', 4, 0, 1, 2);
        x.draw('c', 5, 1, 2, 2);
        int[][] due = {{5, 0, 0}, {5, 1, 1}, {4, 0, 1}, {5, 2, 2}, {4, 1, 2}, {6, 2, 3}, {6, 1, 3}, {6, 0, 4}};
        for (int[] each : due) {
            Check.same("filledIn " + each[0] + " " + each[1], x.filledIn(each[0], each[1]), each[2]);
        }
    }

    private static void speedIsCut() {
        for (int gates = 1; gates <= 12; gates++) {
            for (int rows = 1; rows <= 9; rows++) {
                Ironpour x = new Ironpour();
                x.draw('g', 0, 0, gates, 1);
                x.draw('g', 11, rows - 1, 1, 1);
                int onTop = rows == 1 && gates < 12 ? gates + 1 : gates;
                Check.same("speed of " + rows + " by " + onTop, x.speed(), 60 * rows / onTop);
            }
        }
        Ironpour x = new Ironpour();
        x.draw('g', 0, 0, 7, 1);
        Check.same("8 and four sevenths", x.speed(), 8);
        x.draw('k', 0, 0, 12, 9);
        Check.refused(x, "no gate left", NONE, x::speed);
    }

    /** What passes in the first step from a gate at 1500 to the cell below, and in the second one to the next. */
    private static void passesBetweenCells() {
        char[] kinds = {'.', 'o', 'k'};
        int[] first = {20 + 92, 20 + 69, 20 + 323};
        int[] second = {20 + 5, 20 + 4, 20 + 20};
        for (int i = 0; i < 3; i++) {
            for (char next : ".okcr".toCharArray()) {
                Ironpour x = new Ironpour();
                x.draw('g', 5, 0, 1, 1);
                x.draw(kinds[i], 5, 1, 1, 1);
                x.draw(next, 5, 2, 1, 1);
                Check.same("from metal to " + kinds[i], x.heatAt(5, 1, 1500, 1), first[i]);
                Check.same("nothing further", x.heatAt(5, 2, 1500, 1), 20);
                Check.same("from " + kinds[i] + " to " + next, x.heatAt(5, 2, 1500, 2), second[i]);
            }
        }
        Ironpour both = new Ironpour();
        both.draw('g', 5, 0, 1, 2);
        Check.same("filled a step later", both.heatAt(5, 1, 1500, 0), 1498);
        Check.same("2 times 12 is cut, 3 times 92 go", both.heatAt(5, 1, 1500, 1), 1498 - 276);
        Ironpour edge = new Ironpour();
        edge.draw('g', 0, 0, 1, 1);
        edge.draw('c', 1, 0, 1, 1);
        Check.same("92 each to two sides beyond and below", edge.heatAt(0, 0, 1500, 1), 1500 - 276);
        Ironpour chill = new Ironpour();
        chill.draw('k', 0, 0, 12, 9);
        chill.draw('g', 0, 0, 1, 1);
        Check.same("323 each to two chills, 92 each beyond", chill.heatAt(1, 0, 1500, 1), 343);
        Check.same("it is frozen at once", chill.frozenIn(0, 0, 1500), 1);
    }

    /** Beyond the pattern there is 20, and 4, whatever stands at the edge: a core at 89, a chill at 343, sand at 112. */
    private static void passesBeyondThePattern() {
        char[] kinds = {'o', 'k', '.'};
        int[] first = {89, 343, 112};
        int[] fromMetal = {49, 176, 64};
        int[] toEach = {4, 20, 5};
        for (int i = 0; i < 3; i++) {
            int[][] scenes = {{5, 0, 4, 0}, {5, 0, 6, 0}, {0, 0, 0, 1}, {11, 0, 11, 1}};
            for (int[] at : scenes) {
                Ironpour x = new Ironpour();
                x.draw(kinds[i], at[2], at[3], 1, 1);
                x.draw('g', at[0], at[1], 1, 1);
                Check.same(kinds[i] + " at the edge", x.heatAt(at[2], at[3], 1500, 1), first[i]);
                Check.same("loses to three sides, one of them beyond", x.heatAt(at[2], at[3], 1500, 2),
                        first[i] + fromMetal[i] - 3 * toEach[i]);
            }
        }
        Ironpour corner = new Ironpour();
        corner.draw('g', 1, 0, 1, 1);
        corner.draw('o', 0, 0, 1, 1);
        Check.same("a core in the corner", corner.heatAt(0, 0, 1500, 2), 89 + 49 - 3 * 4);
        Ironpour full = new Ironpour();
        full.draw('c', 0, 0, 12, 9);
        full.draw('g', 0, 0, 12, 1);
        Check.same("all of it takes metal", full.weight(), 216);
        Check.same("nothing is undercut", full.undercut(), 0);
    }

    /** Sand at 112 beside sand at 20 loses 92 times 4 by 64, which is 5 and three quarters. */
    private static void cutTowardsNought() {
        Ironpour x = new Ironpour();
        x.draw('g', 5, 0, 1, 1);
        Check.same("left of it", x.heatAt(4, 0, 1500, 1), 112);
        Check.same("two left of it", x.heatAt(3, 0, 1500, 2), 25);
        Check.same("gains (1150 - 112) / 16, loses 5 beyond, left, and below", x.heatAt(4, 0, 1500, 2), 112 + 64 - 15);
        Ironpour far = new Ironpour();
        far.draw('g', 0, 0, 1, 1);
        Check.same("behind 400 steps all that passes is cut", far.heatAt(0, 0, 1200, 400), far.heatAt(0, 0, 1200, 399));
        for (int cell = 0; cell < 108; cell++) {
            int here = far.heatAt(cell % 12, cell / 12, 1200, 400);
            int right = cell % 12 == 11 ? 20 : far.heatAt(cell % 12 + 1, cell / 12, 1200, 400);
            Check.yes("less than 16 are left between two", Math.abs(here - right) < 16 && here >= 20);
        }
    }

    /** Beside one chill: 3 times 87 and 305 go from 1416, just 300 below 1150; from 1417 go as many. */
    private static void frozenAtNoughtOfMeltingHeat() {
        Ironpour x = new Ironpour();
        x.draw('g', 5, 0, 1, 1);
        x.draw('k', 5, 1, 1, 1);
        Check.same("melting heat of 0", x.frozenIn(5, 0, 1416), 1);
        Check.same("it stays at 1150 in this step", x.heatAt(5, 0, 1416, 1), 1150);
        Check.same("and becomes colder in the next one", x.heatAt(5, 0, 1416, 2), 1150 - 70 - 2 * 65 - 180);
        Check.same("melting heat of 1", x.frozenIn(5, 0, 1417), 2);
        Check.same("it stays at 1150", x.heatAt(5, 0, 1417, 1), 1150);
        Check.same("for a step more", x.heatAt(5, 0, 1417, 2), 1150);
        Check.yes("and becomes colder behind that", x.heatAt(5, 0, 1417, 3) < 1150);
        Check.same("a heat between", x.heatAt(5, 0, 1500, 0), 1500);
        Ironpour warm = new Ironpour();
        warm.draw('g', 5, 0, 1, 1);
        warm.draw('o', 4, 0, 3, 2);
        warm.draw('g', 5, 0, 1, 1);
        Check.same("from 1436 go 88 and 3 times 66", warm.heatAt(5, 0, 1436, 1), 1150);
        Check.same("from 1437 go as many", warm.heatAt(5, 0, 1437, 1), 1151);
        Check.same("from 1435 as well, but it stays", warm.heatAt(5, 0, 1435, 1), 1150);
    }

    /** The cell of step 26 is filled at 1148 then: 2 of its melting heat are gone ahead of the first step. */
    private static void frozenByLateFilling() {
        Ironpour x = new Ironpour();
        x.draw('c', 0, 0, 12, 1);
        x.draw('g', 0, 0, 1, 1);
        x.draw('c', 11, 1, 1, 1);
        x.draw('c', 0, 2, 12, 1);
        x.draw('c', 0, 3, 1, 2);
        Check.same("in step 25", x.filledIn(0, 3), 25);
        Check.same("in step 26", x.filledIn(0, 4), 26);
        Check.same("1150", x.heatAt(0, 3, 1200, 0), 1150);
        Check.same("stays at 1150", x.heatAt(0, 4, 1200, 0), 1150);
        Check.same("1152", x.heatAt(0, 3, 1202, 0), 1152);
        Check.same("1150", x.heatAt(0, 4, 1202, 0), 1150);
        Ironpour snake = new Ironpour();
        snake.draw('c', 0, 0, 12, 9);
        snake.draw('g', 0, 0, 1, 1);
        for (int cell = 0; cell < 108; cell++) {
            int filledAt = 1200 - 2 * snake.filledIn(cell % 12, cell / 12);
            Check.same("as filled, or 1150", snake.heatAt(cell % 12, cell / 12, 1200, 0), Math.max(1150, filledAt));
            Check.yes("none is frozen by filling alone", snake.frozenIn(cell % 12, cell / 12, 1200) >= 1);
        }
        Check.same("the last corner", snake.filledIn(11, 0), 107);
        Check.same("filled at 990, 140 of melting heat are left, and 70 go on each of two sides",
                snake.frozenIn(11, 0, 1204), 1);
        Check.same("filled at 991, a melting heat of 1 is left behind the first step", snake.frozenIn(11, 0, 1205), 2);
    }

    private static void frozenWithin400Steps() {
        Ironpour x = new Ironpour();
        x.draw('c', 0, 0, 12, 9);
        x.draw('g', 0, 0, 12, 1);
        for (int cell = 0; cell < 108; cell++) {
            int step = x.frozenIn(cell % 12, cell / 12, 1500);
            Check.yes("a step from 1 to 401", step >= 1 && step <= 401);
            Check.same("at 1150 behind it", x.heatAt(cell % 12, cell / 12, 1500, step), 1150);
            Check.yes("colder behind the next one", x.heatAt(cell % 12, cell / 12, 1500, step + 1) < 1150);
        }
        Ironpour sand = new Ironpour();
        Check.same("nothing to freeze", sand.frozenIn(0, 0, 1200), -1);
        Check.same("nothing to become warm", sand.heatAt(0, 0, 1500, 400), 20);
    }

    /** A chill beside the feeder: at 1250 both freeze in step 2, at 1300 the casting does a step later. */
    private static void feedsWhatDoesNotFreezeLater() {
        Ironpour x = new Ironpour();
        x.draw('g', 5, 0, 1, 1);
        x.draw('r', 5, 1, 1, 1);
        x.draw('c', 5, 2, 1, 1);
        x.draw('k', 4, 1, 1, 1);
        Check.same("the feeder", x.frozenIn(5, 1, 1250), 2);
        Check.same("the casting as late", x.frozenIn(5, 2, 1250), 2);
        Check.yes("is fed", x.isFed(5, 2, 1250));
        Check.same("none shrunk", x.shrunk(1250) + x.shrunkAnew(1250), 0);
        Check.same("the feeder", x.frozenIn(5, 1, 1300), 2);
        Check.same("the casting a step later", x.frozenIn(5, 2, 1300), 3);
        Check.no("is not fed", x.isFed(5, 2, 1300));
        Check.same("shrunk", x.shrunk(1300), 1);
        Check.same("shrunk by the other way", x.shrunkAnew(1300), 1);
        Check.yes("the feeder itself is", x.isFed(5, 1, 1300));
    }

    /** A feeder in the middle of much casting freezes last. */
    private static Ironpour thick() {
        Ironpour x = new Ironpour();
        x.draw('c', 0, 0, 12, 9);
        x.draw('g', 0, 0, 12, 1);
        return x;
    }

    private static int fedCasting(Ironpour x, int heat) {
        int number = 0;
        for (int cell = 0; cell < 108; cell++) {
            if (x.cell(cell % 12, cell / 12) == 'c' && x.isFed(cell % 12, cell / 12, heat)) {
                number++;
            }
        }
        return number;
    }

    private static void tenCellsForAFeeder() {
        Ironpour x = thick();
        Check.same("none without a feeder", fedCasting(x, 1400), 0);
        for (int feeders = 1; feeders <= 5; feeders++) {
            x.draw('r', 4, 4, feeders, 1);
            Check.same("ten for each of " + feeders, fedCasting(x, 1400), 10 * feeders);
            Check.same("the others are shrunk", x.shrunk(1400), 96 - feeders - 10 * feeders);
        }
        Ironpour few = new Ironpour();
        few.draw('g', 4, 0, 3, 1);
        few.draw('r', 5, 1, 1, 3);
        few.draw('c', 4, 1, 1, 3);
        few.draw('c', 6, 1, 1, 3);
        Check.same("no more than there are", few.shrunk(1400) + fedCasting(few, 1400), 6);
        Ironpour misrun = thick();
        misrun.draw('r', 5, 4, 1, 1);
        misrun.draw('c', 0, 7, 12, 1);
        misrun.draw('.', 0, 7, 12, 1);
        misrun.draw('r', 0, 8, 12, 1);
        Check.same("a feeder that is not filled adds nothing", fedCasting(misrun, 1400), 10);
    }

    /** Just ten cells between the feeder and a gate: with one more the gate is not come to. */
    private static void furtherOnesDoNotLeadOn() {
        Ironpour x = thick();
        x.draw('r', 5, 4, 1, 1);
        x.draw('g', 0, 6, 12, 3);
        int gatesFed = 0;
        int besideFed = 0;
        for (int cell = 0; cell < 108; cell++) {
            int column = cell % 12;
            int row = cell / 12;
            if (x.cell(column, row) == 'g' && x.isFed(column, row, 1400)) {
                gatesFed++;
            }
            if (x.cell(column, row) == 'c' && !x.isFed(column, row, 1400)) {
                besideFed++;
            }
        }
        Check.yes("gates are fed beside what is fed, and are not counted among the ten", gatesFed > 10);
        Check.same("ten of the casting", fedCasting(x, 1400), 10);
        Check.same("the others are shrunk", x.shrunk(1400), besideFed);
        Ironpour row = new Ironpour();
        row.draw('g', 11, 0, 1, 1);
        row.draw('c', 1, 0, 10, 1);
        row.draw('r', 0, 0, 1, 2);
        Check.same("ten cells and a gate in a row", row.weight(), 26);
        Naive naive = Naive.of(x);
        naive.fill();
        naive.freeze(1400, 0);
        naive.feed();
        for (int cell = 0; cell < 108; cell++) {
            Check.yes("as reckoned anew", x.isFed(cell % 12, cell / 12, 1400) == naive.isFed(cell % 12, cell / 12));
        }
    }

    /** One feeder in thick casting: up, left, right, down, then the sides of these in this order. */
    private static void feedersInOrderAndTheirSides() {
        Ironpour x = thick();
        x.draw('r', 5, 4, 1, 1);
        int[][] come = {{5, 3}, {4, 4}, {6, 4}, {5, 5}, {5, 2}, {4, 3}, {6, 3}, {3, 4}, {4, 5}, {7, 4}, {6, 5}};
        int[][] seen = new int[9][12];
        int left = 10;
        int latest = x.frozenIn(5, 4, 1400);
        for (int[] each : come) {
            boolean notLater = x.frozenIn(each[0], each[1], 1400) <= latest;
            boolean due = notLater && left > 0;
            left -= due ? 1 : 0;
            seen[each[1]][each[0]] = due ? 1 : 0;
            Check.yes("what stands round it freezes no later", notLater);
            Check.yes("fed " + each[0] + " " + each[1], x.isFed(each[0], each[1], 1400) == due);
        }
        for (int cell = 0; cell < 108; cell++) {
            int due = cell == 53 ? 1 : seen[cell / 12][cell % 12];
            Check.same("fed " + cell, x.cell(cell % 12, cell / 12) != 'g' && x.isFed(cell % 12, cell / 12, 1400) ? 1 : 0,
                    due);
        }
    }

    private static void ownWayWithoutEnd() {
        Ironpour x = thick();
        x.draw('r', 5, 4, 1, 1);
        Check.same("shrunkAnew, asked for first", x.shrunkAnew(1400), 0);
        Ironpour other = Yard.sound();
        Check.same("shrunkAnew, asked for first", other.shrunkAnew(1200), 0);
        other.draw('.', 4, 1, 3, 4);
        Check.same("nothing filled", other.shrunkAnew(1200), 0);
        other.draw('c', 4, 1, 3, 1);
        Check.same("no feeder", other.shrunkAnew(1500), 3);
    }

    private static void bestFeederBesideCasting() {
        Ironpour x = new Ironpour();
        Check.refused(x, "no casting", NONE, () -> x.bestFeeder(1400));
        x.draw('g', 5, 0, 1, 1);
        x.draw('c', 5, 1, 1, 1);
        x.draw('k', 4, 1, 1, 1);
        Check.same("shrunk", x.shrunk(1400), 1);
        Check.same("right of it and below are as good, the first", x.bestFeeder(1400), 18);
        x.draw('o', 6, 1, 1, 1);
        Check.same("below alone", x.bestFeeder(1400), 29);
        x.draw('k', 5, 2, 1, 1);
        Check.refused(x, "no cell of sand beside the casting", NONE, () -> x.bestFeeder(1400));
        x.draw('.', 4, 1, 3, 2);
        x.draw('c', 5, 1, 1, 1);
        Check.refused(x, "three cells of sand, none by which fewer are shrunk", NONE, () -> x.bestFeeder(1400));
        x.draw('k', 4, 1, 1, 1);
        x.draw('r', 6, 1, 1, 1);
        Check.same("none is shrunk", x.shrunk(1400), 0);
        Check.refused(x, "fewer than none", NONE, () -> x.bestFeeder(1400));
        Ironpour two = new Ironpour();
        two.draw('g', 5, 0, 1, 1);
        two.draw('k', 6, 0, 1, 1);
        two.draw('c', 5, 1, 2, 1);
        Check.same("both are shrunk", two.shrunk(1400), 2);
        Check.same("fewer, though one still is", two.bestFeeder(1400), 19);
        two.draw('r', 7, 1, 1, 1);
        Check.same("one still is", two.shrunk(1400), 1);
    }
}
