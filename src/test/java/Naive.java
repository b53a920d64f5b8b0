import java.util.ArrayDeque;
import java.util.ArrayList;
import java.util.HashMap;
import java.util.HashSet;
import java.util.List;
import java.util.Map;
import java.util.Random;
import java.util.Set;

/** The pattern's promises once more, written as near to the document's words as can be, to compare with. */
final class Naive {
    /** Up, left, right, down. */
    private static final int[][] SIDES = {{0, -1}, {-1, 0}, {1, 0}, {0, 1}};

    final char[][] kinds = new char[9][12];
    int parting = 4;

    private final Map<Integer, Integer> filled = new HashMap<>();
    private final Map<Integer, Integer> frozen = new HashMap<>();
    private final Map<Integer, Integer> melting = new HashMap<>();
    private final Set<Integer> fed = new HashSet<>();
    private int[][] heats = new int[9][12];

    Naive() {
        for (char[] row : kinds) {
            java.util.Arrays.fill(row, '.');
        }
    }

    /** A pattern of some rectangles, the same one drawn into the works. */
    static Naive random(Random random, Ironpour works) {
        Naive naive = new Naive();
        if (random.nextBoolean()) {
            thickCasting(random, works, naive);
        }
        int figures = random.nextInt(naive.kinds[1][5] == 'c' ? 3 : 14);
        for (int i = 0; i < figures; i++) {
            char kind = "cccrrggok.".charAt(random.nextInt(10));
            int x = random.nextInt(12);
            int y = kind == 'g' && random.nextBoolean() ? 0 : random.nextInt(9);
            int wide = 1 + random.nextInt(Math.min(12 - x, 1 + random.nextInt(12)));
            int high = 1 + random.nextInt(9 - y);
            Check.same("draw " + kind, works.draw(kind, x, y, wide, high), naive.draw(kind, x, y, wide, high));
        }
        naive.parting = 1 + random.nextInt(8);
        works.part(naive.parting);
        return naive;
    }

    /** Much casting round few feeders, so that these do not hold enough. */
    private static void thickCasting(Random random, Ironpour works, Naive naive) {
        int[][] boxes = {{'c', 1 + random.nextInt(4), 1, 6, 4 + random.nextInt(5)}, {'g', 3, 0, 1 + random.nextInt(6), 1},
            {'r', 3 + random.nextInt(4), 2 + random.nextInt(4), 1, 1}};
        for (int[] box : boxes) {
            Check.same("draw", works.draw((char) box[0], box[1], box[2], box[3], box[4]),
                    naive.draw((char) box[0], box[1], box[2], box[3], box[4]));
        }
    }

    Naive copy() {
        Naive copy = new Naive();
        for (int y = 0; y < 9; y++) {
            copy.kinds[y] = kinds[y].clone();
        }
        copy.parting = parting;
        return copy;
    }

    /** The pattern as it stands in a works. */
    static Naive of(Ironpour works) {
        Naive naive = new Naive();
        for (int cell = 0; cell < 108; cell++) {
            naive.kinds[cell / 12][cell % 12] = works.cell(cell % 12, cell / 12);
        }
        return naive;
    }

    int draw(char kind, int x, int y, int wide, int high) {
        int changed = 0;
        for (int row = y; row < y + high; row++) {
            for (int column = x; column < x + wide; column++) {
                changed += kinds[row][column] == kind ? 0 : 1;
                kinds[row][column] = kind;
            }
        }
        return changed;
    }

    private char kind(int x, int y) {
        return x < 0 || x > 11 || y < 0 || y > 8 ? '.' : kinds[y][x];
    }

    private boolean takesMetal(int x, int y) {
        return "crg".indexOf(kind(x, y)) >= 0;
    }

    private static int at(int x, int y) {
        return 12 * y + x;
    }

    int undercut() {
        int number = 0;
        for (int y = 0; y < 9; y++) {
            for (int x = 0; x < 12; x++) {
                boolean held = false;
                for (int row = Math.min(y, parting); row <= Math.max(y, parting - 1); row++) {
                    held |= !takesMetal(x, row) && kind(x, row) != 'o';
                }
                number += takesMetal(x, y) && held ? 1 : 0;
            }
        }
        return number;
    }

    int cores(boolean looseOnly) {
        int[] group = new int[108];
        for (int i = 0; i < 108; i++) {
            group[i] = i;
        }
        for (int round = 0; round < 108; round++) {
            for (int i = 0; i < 108; i++) {
                for (int[] side : SIDES) {
                    int x = i % 12 + side[0];
                    int y = i / 12 + side[1];
                    if (kind(i % 12, i / 12) == 'o' && kind(x, y) == 'o') {
                        group[i] = Math.min(group[i], group[at(x, y)]);
                    }
                }
            }
        }
        int number = 0;
        for (int first = 0; first < 108; first++) {
            int bare = 0;
            for (int i = 0; i < 108; i++) {
                int x = i % 12;
                int y = i / 12;
                boolean besideSand = kind(x - 1, y) == '.' || kind(x + 1, y) == '.'
                        || kind(x, y - 1) == '.' || kind(x, y + 1) == '.';
                bare += group[i] == first && besideSand && kind(x, y) == 'o' ? 1 : 0;
            }
            boolean isGroup = group[first] == first && kind(first % 12, first / 12) == 'o';
            number += isGroup && (!looseOnly || bare < 2) ? 1 : 0;
        }
        return number;
    }

    int weight() {
        int number = 0;
        for (int i = 0; i < 108; i++) {
            number += takesMetal(i % 12, i / 12) ? 2 : 0;
        }
        return number;
    }

    private int gates() {
        int number = 0;
        for (int x = 0; x < 12; x++) {
            number += kind(x, 0) == 'g' ? 1 : 0;
        }
        return number;
    }

    /** -1 if there is no gate on top. */
    int speed() {
        int rows = 0;
        for (int i = 0; i < 108; i++) {
            rows = kind(i % 12, i / 12) == 'g' ? i / 12 + 1 : rows;
        }
        return gates() == 0 ? -1 : 60 * rows / gates();
    }

    void fill() {
        filled.clear();
        for (int x = 0; x < 12 && filled.isEmpty(); x++) {
            if (kind(x, 0) == 'g') {
                filled.put(x, 0);
            }
        }
        for (int step = 1; step < 200; step++) {
            List<Integer> ahead = new ArrayList<>();
            for (int i = 0; i < 108; i++) {
                if (takesMetal(i % 12, i / 12) && !filled.containsKey(i) && besideFilled(i)) {
                    ahead.add(i);
                }
            }
            ahead.sort((a, b) -> a / 12 != b / 12 ? b / 12 - a / 12 : a % 12 - b % 12);
            for (int i = 0; i < ahead.size() && i < gates(); i++) {
                filled.put(ahead.get(i), step);
            }
        }
    }

    private boolean besideFilled(int cell) {
        for (int[] side : SIDES) {
            int x = cell % 12 + side[0];
            int y = cell / 12 + side[1];
            if (kind(x, y) != '.' && filled.containsKey(at(x, y))) {
                return true;
            }
        }
        return false;
    }

    int filledIn(int x, int y) {
        return filled.getOrDefault(at(x, y), -1);
    }

    /** Freezes up to 400 steps, until all is frozen and the step is come to behind which the heats are asked for. */
    int[][] freeze(int heat, int keptStep) {
        frozen.clear();
        melting.clear();
        heats = new int[9][12];
        for (int i = 0; i < 108; i++) {
            heats[i / 12][i % 12] = 20;
            if (filled.containsKey(i)) {
                melting.put(i, 300);
                settle(i, heat - 2 * filled.get(i), heats, 0);
            }
        }
        int[][] kept = heats;
        for (int step = 1; step <= 400 && (step <= keptStep || frozen.size() < filled.size()); step++) {
            int[][] next = new int[9][12];
            for (int i = 0; i < 108; i++) {
                settle(i, heats[i / 12][i % 12] + gain(i % 12, i / 12), next, step);
            }
            heats = next;
            kept = step == keptStep ? heats : kept;
        }
        for (int cell : filled.keySet()) {
            frozen.putIfAbsent(cell, 401);
        }
        return kept;
    }

    private void settle(int cell, int next, int[][] into, int step) {
        boolean isLiquid = filled.containsKey(cell) && !frozen.containsKey(cell);
        into[cell / 12][cell % 12] = isLiquid ? Math.max(1150, next) : next;
        if (isLiquid && next < 1150) {
            melting.merge(cell, next - 1150, Integer::sum);
            if (melting.get(cell) <= 0) {
                frozen.put(cell, step);
            }
        }
    }

    private int gain(int x, int y) {
        int gain = 0;
        for (int[] side : SIDES) {
            int otherX = x + side[0];
            int otherY = y + side[1];
            boolean beyond = otherX < 0 || otherX > 11 || otherY < 0 || otherY > 8;
            int there = beyond ? 20 : heats[otherY][otherX];
            int number = beyond ? 4 : number(x, y, otherX, otherY);
            gain += (there - heats[y][x]) * number / 64;
        }
        return gain;
    }

    private int number(int x, int y, int otherX, int otherY) {
        boolean here = filled.containsKey(at(x, y));
        boolean there = filled.containsKey(at(otherX, otherY));
        if (here && kind(otherX, otherY) == 'k' || there && kind(x, y) == 'k') {
            return 14;
        }
        if (here && there) {
            return 12;
        }
        return here && kind(otherX, otherY) == 'o' || there && kind(x, y) == 'o' ? 3 : 4;
    }

    int frozenIn(int x, int y) {
        return frozen.getOrDefault(at(x, y), -1);
    }

    void feed() {
        fed.clear();
        ArrayDeque<Integer> waiting = new ArrayDeque<>();
        for (int i = 0; i < 108; i++) {
            if (kind(i % 12, i / 12) == 'r' && filled.containsKey(i)) {
                fed.add(i);
                waiting.add(i);
            }
        }
        int room = 10 * fed.size();
        while (!waiting.isEmpty()) {
            int from = waiting.remove();
            for (int[] side : SIDES) {
                int x = from % 12 + side[0];
                int y = from / 12 + side[1];
                int to = at(x, y);
                if (!takesMetal(x, y) || !filled.containsKey(to) || fed.contains(to)
                        || frozen.get(to) > frozen.get(from)) {
                    continue;
                }
                if (kind(x, y) == 'c' && room-- <= 0) {
                    continue;
                }
                fed.add(to);
                waiting.add(to);
            }
        }
    }

    boolean isFed(int x, int y) {
        return fed.contains(at(x, y));
    }

    int shrunk() {
        int number = 0;
        for (int cell : filled.keySet()) {
            number += kind(cell % 12, cell / 12) == 'c' && !fed.contains(cell) ? 1 : 0;
        }
        return number;
    }

    int shrunkAnew() {
        int number = 0;
        for (int cell : filled.keySet()) {
            number += kind(cell % 12, cell / 12) == 'c' && !findsFeeder(cell, new HashSet<>()) ? 1 : 0;
        }
        return number;
    }

    private boolean findsFeeder(int cell, Set<Integer> tried) {
        if (kind(cell % 12, cell / 12) == 'r') {
            return true;
        }
        tried.add(cell);
        for (int[] side : SIDES) {
            int x = cell % 12 + side[0];
            int y = cell / 12 + side[1];
            int next = at(x, y);
            if (takesMetal(x, y) && filled.containsKey(next) && !tried.contains(next)
                    && frozen.get(next) >= frozen.get(cell) && findsFeeder(next, tried)) {
                return true;
            }
        }
        return false;
    }

    /** -1 if no cell of the casting is filled. */
    int lastPlace() {
        int place = -1;
        for (int i = 0; i < 108; i++) {
            if (kind(i % 12, i / 12) == 'c' && filled.containsKey(i)
                    && (place < 0 || frozen.get(i) > frozen.get(place))) {
                place = i;
            }
        }
        return place;
    }

    /** -1 if there is none; leaves what it tried behind, so that it is asked last. */
    int bestFeeder(int heat) {
        int best = run(heat);
        int place = -1;
        for (int i = 0; i < 108; i++) {
            int x = i % 12;
            int y = i / 12;
            boolean besideCasting = kind(x - 1, y) == 'c' || kind(x + 1, y) == 'c'
                    || kind(x, y - 1) == 'c' || kind(x, y + 1) == 'c';
            if (kind(x, y) == '.' && besideCasting) {
                kinds[y][x] = 'r';
                int left = run(heat);
                kinds[y][x] = '.';
                place = left < best ? i : place;
                best = Math.min(best, left);
            }
        }
        return place;
    }

    private int run(int heat) {
        fill();
        freeze(heat, 0);
        feed();
        return shrunk();
    }
}
