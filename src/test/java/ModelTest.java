import java.math.BigInteger;
import java.util.ArrayList;
import java.util.Arrays;
import java.util.Collections;
import java.util.Comparator;
import java.util.List;

/**
 * Runs of calls, drawn from fixed seeds, on a TrussSolver and on a model of the document that is
 * written on its own terms (whole numbers without limit, Cramer's rule, pulls summed bar by bar).
 * Every answer must be the same.
 */
public final class ModelTest {
    private static final int CALLS_OF_A_RUN = 512;
    private static int wrong = 0;
    private static long compared = 0;
    private static final long[] solved = new long[12];

    public static void main(String[] args) {
        for (int seed = 1; seed <= 900 && wrong < 20; seed++) {
            new Run(seed).play();
        }
        for (int seed = 1; seed <= 150 && wrong < 20; seed++) {
            new Run(100000 + seed).playStiffest();
        }
        checkThatRunsReachEverything();
        System.out.println(compared + " answers compared, " + wrong + " wrong; solved by number of"
                + " unknowns: " + Arrays.toString(solved));
        if (wrong != 0) {
            System.exit(1);
        }
    }

    /** A draw that never gets to firm structures would compare refusals alone. */
    private static void checkThatRunsReachEverything() {
        for (int unknowns = 0; unknowns <= 10; unknowns++) {
            if (solved[unknowns] == 0) {
                wrong++;
                System.out.println("no run solved a structure with " + unknowns + " unknowns");
            }
        }
    }

    /** One object, its model and the calls made so far. */
    private static final class Run {
        private final long seed;
        private long state;
        private final TrussSolver solver = new TrussSolver();
        private final Model model = new Model();
        private final List<String> calls = new ArrayList<>();

        Run(long seed) {
            this.seed = seed;
            this.state = seed * 0x9E3779B97F4A7C15L + 0x1234567L;
        }

        void play() {
            if (below(10) != 0) {
                describe();
            }
            while (calls.size() < CALLS_OF_A_RUN && wrong < 20) {
                int kind = below(100);
                if (kind < 45) {
                    randomQuestion();
                } else if (kind < 70) {
                    randomChange();
                } else if (kind < 82) {
                    solve();
                } else if (kind < 90) {
                    open();
                } else {
                    load(arg(4), arg(5), arg(2), signed(99));
                }
            }
        }

        /** The greatest numbers that the document's limits let arise. */
        void playStiffest() {
            int[] corners = {0, 0, 4, 4, 0, 4, 4, 0, 2, 2};
            int[] diamond = {2, 0, 0, 2, 4, 2, 2, 4, 2, 2};
            int[] points = below(2) == 0 ? corners : diamond;
            for (int n = 0; n < 5; n++) {
                node(n, points[2 * n], points[2 * n + 1]);
            }
            for (int i = 0; i < 10; i++) {
                int a = below(5);
                bar(a, (a + 1 + below(4)) % 5, 3);
            }
            boolean someHeld = below(3) == 0;
            for (int n = 0; n < 5; n++) {
                for (int direction = 0; direction < 2; direction++) {
                    spring(n, direction, below(8) == 0 ? below(4) : 3);
                    hold(n, direction, someHeld && below(4) == 0, below(2) == 0 ? 9 : -9);
                    for (int c = 0; c < 4; c++) {
                        load(c, n, direction, below(2) == 0 ? 99 : -99);
                    }
                }
            }
            solve();
            determinant();
            while (calls.size() < 250) {
                randomQuestion();
                combined(below(2) == 0 ? 0x80808080 : 0x807F7F80, below(5), below(2), below(2));
            }
        }

        private void describe() {
            int nodes = 1 + below(5);
            for (int step = 0; step < nodes; step++) {
                node(below(5), below(below(2) == 0 ? 3 : 5), below(below(2) == 0 ? 3 : 5));
            }
            int bars = below(11);
            for (int step = 0; step < bars; step++) {
                goodBar();
            }
            int held = below(below(3) == 0 ? 11 : 5);
            for (int step = 0; step < held; step++) {
                hold(below(5), below(2), true, below(2) == 0 ? 0 : signed(9));
            }
            int springs = below(below(2) == 0 ? 2 : 12);
            for (int step = 0; step < springs; step++) {
                spring(below(5), below(2), below(4));
            }
            for (int step = below(20); step > 0; step--) {
                load(below(4), below(5), below(2), signed(99));
            }
            solve();
        }

        /** A bar that is good as the nodes stand now, if one of several draws finds it. */
        private void goodBar() {
            for (int step = 0; step < 12; step++) {
                int a = below(5);
                int b = below(5);
                if (a != b && model.there[a] && model.there[b]) {
                    int dx = model.x[b] - model.x[a];
                    int dy = model.y[b] - model.y[a];
                    if (dx == 0 || dy == 0 || dx == dy || dx == -dy) {
                        bar(a, b, 1 + below(3));
                        return;
                    }
                }
            }
        }

        private void randomChange() {
            switch (below(8)) {
                case 0 -> node(arg(5), arg(5), arg(5));
                case 1 -> bar(arg(5), arg(5), 1 + arg(3));
                case 2, 3 -> goodBar();
                case 4 -> unbar(arg(below(2) == 0 ? 10 : model.bars.size()));
                case 5, 6 -> hold(arg(5), arg(2), below(3) != 0, signed(9));
                default -> spring(arg(5), arg(2), arg(4));
            }
        }

        private void randomQuestion() {
            switch (below(9)) {
                case 0, 1 -> displacement(arg(4), arg(5), arg(2), arg(2));
                case 2 -> force(arg(4), arg(Math.max(1, model.bars.size())), arg(2));
                case 3, 4 -> reaction(arg(4), arg(5), arg(2), arg(2));
                case 5 -> combined(factors(), arg(5), arg(2), arg(2));
                case 6 -> determinant();
                case 7 -> {
                    order(arg(5));
                    unknown(arg(5), arg(2));
                }
                default -> count(arg(5));
            }
        }

        private int factors() {
            switch (below(4)) {
                case 0:
                    return (int) next();
                case 1:
                    return 1 << below(32);
                case 2:
                    return below(256) << 8 * below(4);
                default:
                    return below(2) == 0 ? 0x80808080 : 0x7F7F7F7F;
            }
        }

        /** Mostly 0 .. limit - 1, at times a wrong number. */
        private int arg(int limit) {
            int[] wrongs = {-1, limit, limit + 1, -2, Integer.MIN_VALUE, Integer.MAX_VALUE};
            return limit <= 0 || below(25) == 0 ? wrongs[below(wrongs.length)] : below(limit);
        }

        private int signed(int limit) {
            int[] edges = {limit, -limit, limit, -limit, limit + 1, -limit - 1, Integer.MIN_VALUE,
                Integer.MAX_VALUE};
            return below(6) == 0 ? edges[below(edges.length)] : below(2 * limit + 1) - limit;
        }

        private int below(int limit) {
            return (int) ((next() >>> 1) % limit);
        }

        /** SplitMix64. */
        private long next() {
            state += 0x9E3779B97F4A7C15L;
            long z = state;
            z = (z ^ (z >>> 30)) * 0xBF58476D1CE4E5B9L;
            z = (z ^ (z >>> 27)) * 0x94D049BB133111EBL;
            return z ^ (z >>> 31);
        }

        private void node(int n, int x, int y) {
            due("node", solver.node(n, x, y), model.node(n, x, y), n, x, y);
        }

        private void bar(int a, int b, int k) {
            due("bar", solver.bar(a, b, k), model.bar(a, b, k), a, b, k);
        }

        private void unbar(int i) {
            due("unbar", solver.unbar(i), model.unbar(i), i);
        }

        private void hold(int n, int direction, boolean on, int h) {
            due(on ? "hold" : "hold-off", solver.hold(n, direction, on, h),
                    model.hold(n, direction, on, h), n, direction, h);
        }

        private void spring(int n, int direction, int k) {
            due("spring", solver.spring(n, direction, k), model.spring(n, direction, k), n,
                    direction, k);
        }

        private void load(int c, int n, int direction, int load) {
            due("load", solver.load(c, n, direction, load), model.load(c, n, direction, load), c, n,
                    direction, load);
        }

        private void solve() {
            int answer = model.solve();
            if (answer >= 0) {
                solved[answer]++;
            }
            due("solve", solver.solve(), answer);
        }

        private void open() {
            due("open", solver.open(), model.open());
        }

        private void displacement(int c, int n, int direction, int part) {
            due("displacement", solver.displacement(c, n, direction, part),
                    model.displacement(c, n, direction, part), c, n, direction, part);
        }

        private void force(int c, int i, int part) {
            due("force", solver.force(c, i, part), model.force(c, i, part), c, i, part);
        }

        private void reaction(int c, int n, int direction, int part) {
            due("reaction", solver.reaction(c, n, direction, part),
                    model.reaction(c, n, direction, part), c, n, direction, part);
        }

        private void combined(int f, int n, int direction, int part) {
            due("combined", solver.combined(f, n, direction, part),
                    model.combined(f, n, direction, part), f, n, direction, part);
        }

        private void determinant() {
            due("determinant", solver.determinant(), model.determinant());
        }

        private void order(int i) {
            due("order", solver.order(i), model.order(i), i);
        }

        private void unknown(int n, int direction) {
            due("unknown", solver.unknown(n, direction), model.unknown(n, direction), n, direction);
        }

        private void count(int what) {
            due("count", solver.count(what), model.count(what), what);
        }

        private void due(String call, long got, long want, int... args) {
            calls.add(call + Arrays.toString(args));
            compared++;
            if (got != want) {
                wrong++;
                System.out.println("seed " + seed + ", call " + calls.size() + ": "
                        + calls.get(calls.size() - 1) + " answered " + got + ", due is " + want);
            }
        }
    }

    /** The document, told once more. */
    private static final class Model {
        final boolean[] there = new boolean[5];
        final int[] x = new int[5];
        final int[] y = new int[5];
        final List<int[]> bars = new ArrayList<>();
        final boolean[][] held = new boolean[5][2];
        final int[][] heldAt = new int[5][2];
        final int[][] springs = new int[5][2];
        final int[][][] loads = new int[4][5][2];
        boolean sealed = false;
        List<Integer> order = new ArrayList<>();
        final List<int[]> unknowns = new ArrayList<>();

        int node(int n, int px, int py) {
            if (out(n, 0, 4) || out(px, 0, 4) || out(py, 0, 4)) {
                return -1;
            }
            if (sealed) {
                return -4;
            }
            for (int m = 0; m < 5; m++) {
                if (m != n && there[m] && x[m] == px && y[m] == py) {
                    return -2;
                }
            }
            there[n] = true;
            x[n] = px;
            y[n] = py;
            return 0;
        }

        int bar(int a, int b, int k) {
            if (out(a, 0, 4) || out(b, 0, 4) || out(k, 1, 3) || a == b) {
                return -1;
            }
            if (sealed) {
                return -4;
            }
            if (bars.size() == 10) {
                return -3;
            }
            bars.add(new int[] {a, b, k});
            return bars.size() - 1;
        }

        int unbar(int i) {
            if (out(i, 0, bars.size() - 1)) {
                return -1;
            }
            if (sealed) {
                return -4;
            }
            bars.remove(i);
            return bars.size();
        }

        int hold(int n, int direction, boolean on, int h) {
            if (out(n, 0, 4) || out(direction, 0, 1) || out(h, -9, 9)) {
                return -1;
            }
            if (sealed) {
                return -4;
            }
            held[n][direction] = on;
            heldAt[n][direction] = h;
            return 0;
        }

        int spring(int n, int direction, int k) {
            if (out(n, 0, 4) || out(direction, 0, 1) || out(k, 0, 3)) {
                return -1;
            }
            if (sealed) {
                return -4;
            }
            springs[n][direction] = k;
            return 0;
        }

        int load(int c, int n, int direction, int load) {
            if (out(c, 0, 3) || out(n, 0, 4) || out(direction, 0, 1) || out(load, -99, 99)) {
                return -1;
            }
            loads[c][n][direction] = load;
            return 0;
        }

        int solve() {
            if (sealed) {
                return -4;
            }
            if (count(0) == 0) {
                return -100;
            }
            for (int i = 0; i < bars.size(); i++) {
                int[] bar = bars.get(i);
                if (!there[bar[0]] || !there[bar[1]]) {
                    return -200 - i;
                }
                int dx = x[bar[1]] - x[bar[0]];
                int dy = y[bar[1]] - y[bar[0]];
                if (dx != 0 && dy != 0 && dx != dy && dx != -dy) {
                    return -200 - i;
                }
            }
            makeOrder();
            unknowns.clear();
            for (int n : order) {
                for (int direction = 0; direction < 2; direction++) {
                    if (!held[n][direction]) {
                        unknowns.add(new int[] {n, direction});
                    }
                }
            }
            BigInteger[][] matrix = matrix();
            for (int i = 0; i < unknowns.size(); i++) {
                if (determinantOf(matrix, i + 1).signum() == 0) {
                    return -300 - i;
                }
            }
            sealed = true;
            return unknowns.size();
        }

        int open() {
            if (!sealed) {
                return -1;
            }
            sealed = false;
            return 0;
        }

        long displacement(int c, int n, int direction, int part) {
            if (out(c, 0, 3)) {
                return TrussSolver.NONE;
            }
            return combined(1 << 8 * c, n, direction, part);
        }

        long combined(int f, int n, int direction, int part) {
            if (!sealed || out(n, 0, 4) || !there[n] || out(direction, 0, 1) || out(part, 0, 1)) {
                return TrussSolver.NONE;
            }
            return part(displacements(f)[n][direction], determinantOfAll(), part);
        }

        long force(int c, int i, int part) {
            if (!sealed || out(c, 0, 3) || out(i, 0, bars.size() - 1) || out(part, 0, 1)) {
                return TrussSolver.NONE;
            }
            return part(forceOf(bars.get(i), displacements(1 << 8 * c)), determinantOfAll(), part);
        }

        long reaction(int c, int n, int direction, int part) {
            if (!sealed || out(c, 0, 3) || out(n, 0, 4) || !there[n] || out(direction, 0, 1)
                    || out(part, 0, 1) || !held[n][direction]) {
                return TrussSolver.NONE;
            }
            BigInteger[][] moved = displacements(1 << 8 * c);
            BigInteger all = big(loads[c][n][direction]).multiply(determinantOfAll());
            all = all.add(pullAt(n, direction, moved));
            return part(all.negate(), determinantOfAll(), part);
        }

        long determinant() {
            return sealed ? determinantOfAll().longValueExact() : TrussSolver.NONE;
        }

        int order(int i) {
            return !sealed || out(i, 0, order.size() - 1) ? -1 : order.get(i);
        }

        int unknown(int n, int direction) {
            if (!sealed || out(n, 0, 4) || !there[n] || out(direction, 0, 1)) {
                return -1;
            }
            for (int i = 0; i < unknowns.size(); i++) {
                if (unknowns.get(i)[0] == n && unknowns.get(i)[1] == direction) {
                    return i;
                }
            }
            return -2;
        }

        int count(int what) {
            switch (what) {
                case 0:
                    int nodes = 0;
                    for (boolean one : there) {
                        nodes += one ? 1 : 0;
                    }
                    return nodes;
                case 1:
                    return bars.size();
                case 2:
                    return sealed ? 1 : 0;
                case 3:
                    return sealed ? unknowns.size() : 0;
                case 4:
                    return sealed ? profile() : 0;
                default:
                    return -1;
            }
        }

        private int profile() {
            BigInteger[][] matrix = matrix();
            int sum = 0;
            for (int i = 0; i < matrix.length; i++) {
                for (int j = 0; j <= i; j++) {
                    if (matrix[i][j].signum() != 0) {
                        sum += i - j;
                        break;
                    }
                }
            }
            return sum;
        }

        private List<Integer> neighbours(int n) {
            List<Integer> found = new ArrayList<>();
            for (int[] bar : bars) {
                int other = bar[0] == n ? bar[1] : bar[1] == n ? bar[0] : -1;
                if (other >= 0 && !found.contains(other)) {
                    found.add(other);
                }
            }
            return found;
        }

        private void makeOrder() {
            Comparator<Integer> fewestFirst = Comparator
                    .comparingInt((Integer n) -> neighbours(n).size())
                    .thenComparingInt(n -> n);
            order = new ArrayList<>();
            List<Integer> left = new ArrayList<>();
            for (int n = 0; n < 5; n++) {
                if (there[n]) {
                    left.add(n);
                }
            }
            int through = 0;
            while (!left.isEmpty() || through < order.size()) {
                List<Integer> next = new ArrayList<>();
                if (through == order.size()) {
                    next.add(Collections.min(left, fewestFirst));
                } else {
                    next.addAll(neighbours(order.get(through)));
                    next.retainAll(left);
                    next.sort(fewestFirst);
                    through++;
                }
                order.addAll(next);
                left.removeAll(next);
            }
            Collections.reverse(order);
        }

        /** Column j is what the equations' left sides lose when unknown j alone is moved by 1. */
        private BigInteger[][] matrix() {
            int size = unknowns.size();
            BigInteger[][] matrix = new BigInteger[size][size];
            for (int j = 0; j < size; j++) {
                BigInteger[][] moved = rest();
                moved[unknowns.get(j)[0]][unknowns.get(j)[1]] = BigInteger.ONE;
                for (int i = 0; i < size; i++) {
                    matrix[i][j] = pullAt(unknowns.get(i)[0], unknowns.get(i)[1], moved).negate();
                }
            }
            return matrix;
        }

        /** Displacements times the determinant, by Cramer's rule. */
        private BigInteger[][] displacements(int f) {
            BigInteger[][] moved = rest();
            BigInteger[] right = new BigInteger[unknowns.size()];
            long[] factors = {(byte) f, (byte) (f >>> 8), (byte) (f >>> 16), (byte) (f >>> 24)};
            long sum = factors[0] + factors[1] + factors[2] + factors[3];
            for (int n = 0; n < 5; n++) {
                for (int direction = 0; direction < 2; direction++) {
                    if (held[n][direction]) {
                        moved[n][direction] = big(sum * heldAt[n][direction]);
                    }
                }
            }
            for (int i = 0; i < right.length; i++) {
                int n = unknowns.get(i)[0];
                int direction = unknowns.get(i)[1];
                right[i] = pullAt(n, direction, moved);
                for (int c = 0; c < 4; c++) {
                    right[i] = right[i].add(big(factors[c] * loads[c][n][direction]));
                }
            }
            BigInteger scale = determinantOfAll();
            for (BigInteger[] row : moved) {
                row[0] = row[0].multiply(scale);
                row[1] = row[1].multiply(scale);
            }
            for (int j = 0; j < right.length; j++) {
                BigInteger[][] matrix = matrix();
                for (int i = 0; i < right.length; i++) {
                    matrix[i][j] = right[i];
                }
                moved[unknowns.get(j)[0]][unknowns.get(j)[1]] = determinantOf(matrix, right.length);
            }
            return moved;
        }

        private BigInteger[][] rest() {
            BigInteger[][] moved = new BigInteger[5][2];
            for (BigInteger[] row : moved) {
                Arrays.fill(row, BigInteger.ZERO);
            }
            return moved;
        }

        /** The pulls of all bars at the node and what its spring does, without the load. */
        private BigInteger pullAt(int n, int direction, BigInteger[][] moved) {
            BigInteger sum = moved[n][direction].multiply(big(-springs[n][direction]));
            for (int[] bar : bars) {
                int sign = direction == 0 ? sign(x, bar) : sign(y, bar);
                BigInteger pull = forceOf(bar, moved).multiply(big(sign));
                if (bar[0] == n) {
                    sum = sum.add(pull);
                }
                if (bar[1] == n) {
                    sum = sum.subtract(pull);
                }
            }
            return sum;
        }

        private BigInteger forceOf(int[] bar, BigInteger[][] moved) {
            BigInteger inX = moved[bar[1]][0].subtract(moved[bar[0]][0]);
            BigInteger inY = moved[bar[1]][1].subtract(moved[bar[0]][1]);
            BigInteger stretch = inX.multiply(big(sign(x, bar))).add(inY.multiply(big(sign(y, bar))));
            return stretch.multiply(big(bar[2]));
        }

        private static int sign(int[] coordinates, int[] bar) {
            return Integer.signum(coordinates[bar[1]] - coordinates[bar[0]]);
        }

        private BigInteger determinantOfAll() {
            return determinantOf(matrix(), unknowns.size());
        }

        /** Bareiss, of the first rows and columns. */
        private static BigInteger determinantOf(BigInteger[][] matrix, int size) {
            BigInteger[][] a = new BigInteger[size][];
            for (int i = 0; i < size; i++) {
                a[i] = Arrays.copyOf(matrix[i], size);
            }
            BigInteger before = BigInteger.ONE;
            int sign = 1;
            for (int k = 0; k < size; k++) {
                int pivot = k;
                while (pivot < size && a[pivot][k].signum() == 0) {
                    pivot++;
                }
                if (pivot == size) {
                    return BigInteger.ZERO;
                }
                if (pivot != k) {
                    BigInteger[] row = a[pivot];
                    a[pivot] = a[k];
                    a[k] = row;
                    sign = -sign;
                }
                for (int i = k + 1; i < size; i++) {
                    for (int j = k + 1; j < size; j++) {
                        a[i][j] = a[i][j].multiply(a[k][k]).subtract(a[i][k].multiply(a[k][j]))
                                .divide(before);
                    }
                }
                before = a[k][k];
            }
            return size == 0 ? BigInteger.ONE : before.multiply(big(sign));
        }

        private static long part(BigInteger numerator, BigInteger denominator, int part) {
            BigInteger divisor = numerator.gcd(denominator);
            if (denominator.signum() < 0) {
                divisor = divisor.negate();
            }
            return (part == 0 ? numerator : denominator).divide(divisor).longValueExact();
        }

        private static BigInteger big(long number) {
            return BigInteger.valueOf(number);
        }

        private static boolean out(int number, int least, int greatest) {
            return number < least || number > greatest;
        }
    }
}
