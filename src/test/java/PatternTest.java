import java.util.Random;

/** Promises 1 to 10: the pattern, and how metal runs in it. */
final class PatternTest {
    private static final Class<IllegalArgumentException> ILLEGAL = IllegalArgumentException.class;
    private static final Class<IndexOutOfBoundsException> OUTSIDE = IndexOutOfBoundsException.class;
    private static final int[][] NO_CELLS = {{-1, 0}, {12, 0}, {0, -1}, {0, 9}, {-1, -1}, {12, 9},
        {Integer.MIN_VALUE, 0}, {Integer.MAX_VALUE, 0}, {0, Integer.MIN_VALUE}, {0, Integer.MAX_VALUE}, {13, -1}};

    public static void main(String[] arguments) {
        promise1NewObject();
        promise2Draw();
        promise3Cell();
        promise4Part();
        promise5Undercut();
        promises6And7Cores();
        promise8Weight();
        promise9FilledIn();
        promise10Speed();
        comparedWithNaive();
        Check.end("PatternTest");
    }

    private static void promise1NewObject() {
        Ironpour x = new Ironpour();
        for (int cell = 0; cell < 108; cell++) {
            Check.same("cell " + cell, x.cell(cell % 12, cell / 12), '.');
            Check.same("filledIn " + cell, x.filledIn(cell % 12, cell / 12), -1);
        }
        Check.same("parting", x.part(4), 4);
        Check.same("undercut", x.undercut(), 0);
        Check.same("cores", x.cores(), 0);
        Check.same("loose", x.loose(), 0);
        Check.same("weight", x.weight(), 0);
        Check.same("shrunk", x.shrunk(1400), 0);
        Check.same("shrunkAnew", x.shrunkAnew(1400), 0);
        Check.same("goodCores", x.goodCores(), 0);
        Check.same("hours", x.hours(48), 0);
        Check.same("castings", x.castings(), 0);
        Check.same("delivered", x.delivered(), 0);
        Check.same("ladle", x.ladle('w') + x.ladle('h') + x.ladle('m'), 0);
        Check.same("pools", x.pool('g') + x.pool('d'), 0);
        int[] fresh = {80, 35, 30, 50, 0, 154, 135};
        for (int i = 0; i < fresh.length; i++) {
            Check.same("sand " + "cwkfbsd".charAt(i), x.sand("cwkfbsd".charAt(i)), fresh[i]);
        }
        Check.yes("isSound", x.isSound());
        Check.refused(x, "furnace('c')", java.util.NoSuchElementException.class, () -> x.furnace('c'));
    }

    private static void promise2Draw() {
        Ironpour x = new Ironpour();
        Check.same("draw c", x.draw('c', 1, 1, 3, 2), 6);
        Check.same("draw c again", x.draw('c', 1, 1, 3, 2), 0);
        Check.same("draw c wider", x.draw('c', 0, 0, 4, 3), 6);
        Check.same("draw r into it", x.draw('r', 3, 2, 2, 2), 4);
        Check.same("draw sand", x.draw('.', 0, 0, 12, 9), 15);
        for (char kind : "crgok.".toCharArray()) {
            Check.same("draw all " + kind, x.draw(kind, 0, 0, 12, 9), 108);
            Check.same("corner", x.cell(11, 8), kind);
        }
        Check.same("draw a corner", x.draw('k', 11, 8, 1, 1), 1);
        Check.same("draw a corner", x.draw('o', 0, 0, 1, 1), 1);
        for (char kind : new char[] {'x', 'C', 0, 255, 256 + 'c', ' ', 's'}) {
            Check.refused(x, "draw kind " + (int) kind, ILLEGAL, () -> x.draw(kind, 0, 0, 1, 1));
        }
        int[][] outside = {{-1, 0, 1, 1}, {12, 0, 1, 1}, {0, -1, 1, 1}, {0, 9, 1, 1}, {0, 0, 0, 1}, {0, 0, 1, 0},
            {0, 0, -1, 1}, {0, 0, 1, -1}, {0, 0, 13, 1}, {0, 0, 1, 10}, {11, 8, 2, 1}, {11, 8, 1, 2}, {5, 5, 8, 1},
            {5, 5, 1, 5}, {1, 1, Integer.MAX_VALUE, 1}, {1, 1, 1, Integer.MAX_VALUE}, {-5, 0, 10, 1},
            {Integer.MIN_VALUE, 0, 1, 1}, {Integer.MAX_VALUE, 0, 1, 1}, {0, Integer.MIN_VALUE, 1, 1},
            {0, 0, Integer.MIN_VALUE, 1}, {0, 0, 1, Integer.MIN_VALUE}, {0, Integer.MAX_VALUE, 1, Integer.MAX_VALUE}};
        for (int[] box : outside) {
            Check.refused(x, "draw outside", ILLEGAL, () -> x.draw('c', box[0], box[1], box[2], box[3]));
        }
    }

    private static void promise3Cell() {
        Ironpour x = new Ironpour();
        x.draw('c', 2, 3, 2, 1);
        x.draw('k', 11, 8, 1, 1);
        Check.same("cell", x.cell(2, 3), 'c');
        Check.same("cell", x.cell(3, 3), 'c');
        Check.same("cell", x.cell(4, 3), '.');
        Check.same("cell", x.cell(3, 2), '.');
        Check.same("cell", x.cell(2, 4), '.');
        Check.same("cell", x.cell(11, 8), 'k');
        for (int[] place : NO_CELLS) {
            Check.refused(x, "cell", OUTSIDE, () -> x.cell(place[0], place[1]));
        }
    }

    private static void promise4Part() {
        Ironpour x = new Ironpour();
        Check.same("part", x.part(1), 4);
        Check.same("part", x.part(8), 1);
        Check.same("part", x.part(8), 8);
        for (int row : new int[] {0, 9, -1, Integer.MIN_VALUE, Integer.MAX_VALUE}) {
            Check.refused(x, "part " + row, ILLEGAL, () -> x.part(row));
        }
        Check.same("part", x.part(4), 8);
    }

    private static void promise5Undercut() {
        Ironpour x = new Ironpour();
        x.draw('c', 3, 0, 1, 9);
        Check.same("a whole column", x.undercut(), 0);
        x.draw('o', 3, 2, 1, 1);
        Check.same("a core can be drawn too", x.undercut(), 0);
        x.draw('.', 3, 2, 1, 1);
        Check.same("two rows are above sand", x.undercut(), 2);
        x.draw('k', 3, 6, 1, 1);
        Check.same("and two below a chill", x.undercut(), 4);
        x.draw('o', 3, 0, 1, 1);
        Check.same("cores are not undercut", x.undercut(), 3);
        x.draw('r', 3, 1, 1, 1);
        x.draw('g', 3, 8, 1, 1);
        Check.same("feeders and gates are", x.undercut(), 3);
        x.part(3);
        Check.same("parting right below the sand", x.undercut(), 3);
        x.part(2);
        Check.same("parting right above the sand", x.undercut(), 5);
        x.part(6);
        Check.same("parting above the chill", x.undercut(), 3);
        x.part(8);
        Check.same("parting below the chill", x.undercut(), 4);
        x.part(1);
        Check.same("parting above row 1", x.undercut(), 5);
        x.draw('c', 7, 8, 1, 1);
        Check.same("another column", x.undercut(), 6);
    }

    private static void promises6And7Cores() {
        Ironpour x = new Ironpour();
        x.draw('c', 1, 1, 10, 7);
        x.draw('o', 2, 2, 1, 1);
        x.draw('o', 3, 3, 1, 1);
        Check.same("corners do not hang together", x.cores(), 2);
        Check.same("both in the casting", x.loose(), 2);
        x.draw('o', 2, 3, 1, 1);
        Check.same("one core", x.cores(), 1);
        Check.same("loose", x.loose(), 1);
        x.draw('.', 4, 3, 1, 1);
        Check.same("one cell beside sand", x.loose(), 1);
        x.draw('.', 3, 4, 1, 1);
        Check.same("the same cell twice beside sand", x.loose(), 1);
        x.draw('.', 1, 2, 1, 1);
        Check.same("two cells beside sand", x.loose(), 0);
        x.draw('k', 1, 2, 1, 1);
        Check.same("a chill is not sand", x.loose(), 1);
        x.draw('c', 0, 0, 12, 9);
        x.draw('o', 11, 0, 1, 1);
        Check.same("one cell in the corner", x.loose(), 1);
        x.draw('o', 10, 0, 1, 1);
        Check.same("beyond the pattern there is sand", x.loose(), 0);
        x.draw('o', 0, 8, 1, 1);
        x.draw('o', 0, 4, 1, 2);
        Check.same("cores", x.cores(), 3);
        Check.same("loose", x.loose(), 1);
        x.draw('o', 0, 0, 12, 9);
        Check.same("all a core", x.cores(), 1);
        Check.same("not loose", x.loose(), 0);
    }

    private static void promise8Weight() {
        Ironpour x = new Ironpour();
        x.draw('o', 0, 0, 12, 2);
        x.draw('k', 0, 2, 12, 2);
        Check.same("cores and chills weigh nothing", x.weight(), 0);
        x.draw('c', 0, 8, 3, 1);
        x.draw('r', 5, 8, 2, 1);
        x.draw('g', 9, 8, 1, 1);
        Check.same("weight", x.weight(), 12);
        x.draw('c', 0, 0, 12, 9);
        Check.same("weight of all", x.weight(), 216);
    }

    private static void promise9FilledIn() {
        Ironpour x = new Ironpour();
        x.draw('g', 3, 0, 1, 1);
        x.draw('c', 1, 1, 6, 1);
        x.draw('r', 4, 2, 1, 2);
        x.draw('c', 0, 8, 1, 1);
        filled(x, 3, 0, 0);
        filled(x, 3, 1, 1);
        filled(x, 2, 1, 2);
        filled(x, 1, 1, 3);
        filled(x, 4, 1, 4);
        filled(x, 4, 2, 5);
        filled(x, 4, 3, 6);
        filled(x, 5, 1, 7);
        filled(x, 6, 1, 8);
        filled(x, 0, 8, -1);
        filled(x, 0, 0, -1);
        x.draw('g', 5, 0, 1, 1);
        filled(x, 3, 0, 0);
        filled(x, 3, 1, 1);
        filled(x, 2, 1, 2);
        filled(x, 4, 1, 2);
        filled(x, 4, 2, 3);
        filled(x, 1, 1, 3);
        filled(x, 4, 3, 4);
        filled(x, 5, 1, 4);
        filled(x, 6, 1, 5);
        filled(x, 5, 0, 5);
        x.draw('o', 3, 1, 1, 1);
        filled(x, 4, 1, -1);
        filled(x, 5, 0, -1);
        x.draw('k', 3, 1, 1, 1);
        filled(x, 4, 1, -1);
        x.draw('.', 3, 0, 1, 1);
        filled(x, 5, 0, 0);
        filled(x, 5, 1, 1);
        filled(x, 2, 1, -1);
        for (int[] place : NO_CELLS) {
            Check.refused(x, "filledIn", OUTSIDE, () -> x.filledIn(place[0], place[1]));
        }
    }

    private static void filled(Ironpour works, int x, int y, int due) {
        Check.same("filledIn " + x + " " + y, works.filledIn(x, y), due);
    }

    private static void promise10Speed() {
        Ironpour x = new Ironpour();
        Class<? extends RuntimeException> none = java.util.NoSuchElementException.class;
        Check.refused(x, "speed of sand", none, x::speed);
        x.draw('g', 0, 1, 12, 8);
        x.draw('c', 0, 0, 12, 1);
        Check.refused(x, "speed without a gate on top", none, x::speed);
        x.draw('.', 0, 0, 12, 9);
        x.draw('g', 4, 0, 1, 1);
        Check.same("one row", x.speed(), 60);
        x.draw('g', 9, 8, 1, 1);
        x.draw('c', 9, 2, 1, 1);
        Check.same("nine rows, though not filled", x.speed(), 540);
        x.draw('g', 4, 0, 7, 1);
        Check.same("cut", x.speed(), 77);
        x.draw('g', 0, 0, 12, 1);
        Check.same("twelve gates", x.speed(), 45);
        x.draw('.', 9, 8, 1, 1);
        Check.same("one row of twelve", x.speed(), 5);
        x.draw('.', 1, 0, 11, 1);
        Check.same("one gate in the corner", x.speed(), 60);
    }

    private static void comparedWithNaive() {
        Random random = new Random(11);
        for (int run = 0; run < 150; run++) {
            Ironpour x = new Ironpour();
            Naive naive = Naive.random(random, x);
            naive.fill();
            for (int cell = 0; cell < 108; cell++) {
                Check.same("cell", x.cell(cell % 12, cell / 12), naive.kinds[cell / 12][cell % 12]);
                filled(x, cell % 12, cell / 12, naive.filledIn(cell % 12, cell / 12));
            }
            Check.same("undercut of run " + run, x.undercut(), naive.undercut());
            Check.same("cores of run " + run, x.cores(), naive.cores(false));
            Check.same("loose of run " + run, x.loose(), naive.cores(true));
            Check.same("weight of run " + run, x.weight(), naive.weight());
            if (naive.speed() >= 0) {
                Check.same("speed of run " + run, x.speed(), naive.speed());
            } else {
                Check.refused(x, "speed of run " + run, java.util.NoSuchElementException.class, x::speed);
            }
        }
    }
}
