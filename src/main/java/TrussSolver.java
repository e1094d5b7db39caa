import java.util.Arrays;

/**
 * Plane trusses of elastic bars on a grid, solved in exact fractions.
 *
 * <p>A "slot" is a node's direction: slot 2 * n + direction. All rows that are told of nodes and
 * directions (supports, springs, loads, displacements) are kept by slot.
 */
public final class TrussSolver {
    public static final int DONE = 0;
    public static final int REFUSED = -1;
    public static final int TAKEN = -2;
    public static final int FULL = -3;
    public static final int SEALED = -4;
    public static final long NONE = -4000000000000000000L;

    private static final int NODES = 5;
    private static final int GRID = 5;
    private static final int DIRECTIONS = 2;
    private static final int SLOTS = NODES * DIRECTIONS;
    private static final int BARS = 10;
    private static final int CASES = 4;
    private static final int STIFFEST = 3;
    private static final int FARTHEST_HOLD = 9;
    private static final int GREATEST_LOAD = 99;

    private static final int NO_NODES = -100;
    private static final int BAD_BAR = -200;
    private static final int NOT_FIRM = -300;

    /** What stands in place of an unknown's number. */
    private static final int IS_HELD = -2;

    /** Euclid's algorithm on two longs ends within 92 steps. */
    private static final int EUCLID_STEPS = 100;

    private final Truss truss;
    private final Numbering numbering;
    private final Equations equations;
    private final Response response;
    private boolean isSealed;

    public TrussSolver() {
        truss = new Truss();
        numbering = new Numbering();
        equations = new Equations();
        response = new Response();
        isSealed = false;
    }

    public int node(int n, int x, int y) {
        if (!isNode(n) || !isOnGrid(x) || !isOnGrid(y)) {
            return REFUSED;
        }
        if (isSealed) {
            return SEALED;
        }
        if (truss.hasOtherAt(n, x, y)) {
            return TAKEN;
        }
        truss.putNode(n, x, y);
        return DONE;
    }

    public int bar(int a, int b, int k) {
        if (!isNode(a) || !isNode(b) || k < 1 || k > STIFFEST || a == b) {
            return REFUSED;
        }
        if (isSealed) {
            return SEALED;
        }
        if (truss.barCount >= BARS) {
            return FULL;
        }
        return truss.addBar(a, b, k);
    }

    public int unbar(int i) {
        if (!isBarThere(i)) {
            return REFUSED;
        }
        if (isSealed) {
            return SEALED;
        }
        truss.removeBar(i);
        return truss.barCount;
    }

    public int hold(int n, int direction, boolean on, int h) {
        if (!isNode(n) || !isDirection(direction) || h < -FARTHEST_HOLD || h > FARTHEST_HOLD) {
            return REFUSED;
        }
        if (isSealed) {
            return SEALED;
        }
        int slot = slotOf(n, direction);
        truss.held[slot] = on;
        truss.heldAt[slot] = h;
        return DONE;
    }

    public int spring(int n, int direction, int k) {
        if (!isNode(n) || !isDirection(direction) || k < 0 || k > STIFFEST) {
            return REFUSED;
        }
        if (isSealed) {
            return SEALED;
        }
        truss.springs[slotOf(n, direction)] = k;
        return DONE;
    }

    public int load(int c, int n, int direction, int load) {
        if (!isCase(c) || !isNode(n) || !isDirection(direction)
                || load < -GREATEST_LOAD || load > GREATEST_LOAD) {
            return REFUSED;
        }
        truss.loads[c][slotOf(n, direction)] = load;
        return DONE;
    }

    public int solve() {
        if (isSealed) {
            return SEALED;
        }
        if (truss.nodeCount() == 0) {
            return NO_NODES;
        }
        int bad = truss.firstBadBar();
        if (bad >= 0) {
            return BAD_BAR - bad;
        }
        numbering.make(truss);
        equations.make(truss, numbering);
        int weak = equations.findWeakUnknown();
        if (weak >= 0) {
            return NOT_FIRM - weak;
        }
        isSealed = true;
        return numbering.unknowns;
    }

    public int open() {
        if (!isSealed) {
            return REFUSED;
        }
        isSealed = false;
        return DONE;
    }

    public long displacement(int c, int n, int direction, int part) {
        if (!isCase(c) || !isAnswerable(n, direction, part)) {
            return NONE;
        }
        response.chooseCase(c);
        response.respond(truss, numbering, equations);
        return partOfFraction(response.numerators[slotOf(n, direction)], part);
    }

    public long force(int c, int i, int part) {
        if (!isSealed || !isCase(c) || !isBarThere(i) || !isPart(part)) {
            return NONE;
        }
        response.chooseCase(c);
        response.respond(truss, numbering, equations);
        return partOfFraction(response.forceNumerator(truss, i), part);
    }

    public long reaction(int c, int n, int direction, int part) {
        if (!isCase(c) || !isAnswerable(n, direction, part)) {
            return NONE;
        }
        int slot = slotOf(n, direction);
        if (!truss.held[slot]) {
            return NONE;
        }
        response.chooseCase(c);
        response.respond(truss, numbering, equations);
        return partOfFraction(response.reactionNumerator(equations, slot), part);
    }

    public long combined(int f, int n, int direction, int part) {
        if (!isAnswerable(n, direction, part)) {
            return NONE;
        }
        response.chooseFactors(f);
        response.respond(truss, numbering, equations);
        return partOfFraction(response.numerators[slotOf(n, direction)], part);
    }

    public long determinant() {
        return isSealed ? equations.wholeMinor() : NONE;
    }

    public int order(int i) {
        if (!isSealed || i < 0 || i >= numbering.placed) {
            return REFUSED;
        }
        return numbering.nodes[i];
    }

    public int unknown(int n, int direction) {
        if (!isSealed || !isNodeThere(n) || !isDirection(direction)) {
            return REFUSED;
        }
        return numbering.unknownAt[slotOf(n, direction)];
    }

    public int count(int what) {
        switch (what) {
            case 0:
                return truss.nodeCount();
            case 1:
                return truss.barCount;
            case 2:
                return isSealed ? 1 : 0;
            case 3:
                return isSealed ? numbering.unknowns : 0;
            case 4:
                return isSealed ? equations.profile() : 0;
            default:
                return REFUSED;
        }
    }

    private boolean isAnswerable(int n, int direction, int part) {
        return isSealed && isNodeThere(n) && isDirection(direction) && isPart(part);
    }

    private boolean isNodeThere(int n) {
        return isNode(n) && truss.isThere(n);
    }

    private boolean isBarThere(int i) {
        return i >= 0 && i < truss.barCount;
    }

    /** One part, in lowest terms, of a fraction whose denominator is the determinant. */
    private long partOfFraction(long numerator, int part) {
        long denominator = equations.wholeMinor();
        long divisor = greatestDivisor(Math.abs(numerator), denominator);
        if (divisor == 0) {
            return NONE;
        }
        return part == 0 ? numerator / divisor : denominator / divisor;
    }

    private static long greatestDivisor(long a, long b) {
        long greater = a;
        long lesser = b;
        for (int step = 0; step < EUCLID_STEPS && lesser != 0; step++) {
            long rest = greater % lesser;
            greater = lesser;
            lesser = rest;
        }
        return greater;
    }

    private static boolean isNode(int n) {
        return n >= 0 && n < NODES;
    }

    private static boolean isOnGrid(int coordinate) {
        return coordinate >= 0 && coordinate < GRID;
    }

    private static boolean isDirection(int direction) {
        return direction >= 0 && direction < DIRECTIONS;
    }

    private static boolean isCase(int c) {
        return c >= 0 && c < CASES;
    }

    private static boolean isPart(int part) {
        return part == 0 || part == 1;
    }

    private static int slotOf(int n, int direction) {
        return n * DIRECTIONS + direction;
    }

    /** The structure and its loads as they have been described. */
    private static final class Truss {
        /** Bit n is set if node n is there. */
        int there = 0;
        final int[] points = new int[SLOTS];
        final int[] firstNodes = new int[BARS];
        final int[] secondNodes = new int[BARS];
        final int[] stiffnesses = new int[BARS];
        int barCount = 0;
        final boolean[] held = new boolean[SLOTS];
        final int[] heldAt = new int[SLOTS];
        final int[] springs = new int[SLOTS];
        final int[][] loads = new int[CASES][SLOTS];

        boolean isThere(int n) {
            return (there >> n & 1) != 0;
        }

        int nodeCount() {
            return Integer.bitCount(there);
        }

        boolean hasOtherAt(int n, int x, int y) {
            for (int other = 0; other < NODES; other++) {
                if (other != n && isThere(other)
                        && points[slotOf(other, 0)] == x && points[slotOf(other, 1)] == y) {
                    return true;
                }
            }
            return false;
        }

        void putNode(int n, int x, int y) {
            there |= 1 << n;
            points[slotOf(n, 0)] = x;
            points[slotOf(n, 1)] = y;
        }

        int addBar(int a, int b, int k) {
            int number = barCount;
            firstNodes[number] = a;
            secondNodes[number] = b;
            stiffnesses[number] = k;
            barCount++;
            return number;
        }

        void removeBar(int i) {
            for (int later = i + 1; later < barCount; later++) {
                firstNodes[later - 1] = firstNodes[later];
                secondNodes[later - 1] = secondNodes[later];
                stiffnesses[later - 1] = stiffnesses[later];
            }
            barCount--;
        }

        int firstBadBar() {
            for (int i = 0; i < barCount; i++) {
                if (!isThere(firstNodes[i]) || !isThere(secondNodes[i]) || !isGood(i)) {
                    return i;
                }
            }
            return -1;
        }

        private boolean isGood(int i) {
            int dx = reach(i, 0);
            int dy = reach(i, 1);
            return dx == 0 || dy == 0 || Math.abs(dx) == Math.abs(dy);
        }

        private int reach(int i, int direction) {
            return points[slotOf(secondNodes[i], direction)]
                    - points[slotOf(firstNodes[i], direction)];
        }

        /** How much bar i's stretch grows when the displacement in the slot grows by 1. */
        int stretchBy(int i, int slot) {
            int n = slot / DIRECTIONS;
            int sign = signOf(reach(i, slot % DIRECTIONS));
            if (n == secondNodes[i]) {
                return sign;
            }
            return n == firstNodes[i] ? -sign : 0;
        }

        private static int signOf(int number) {
            if (number == 0) {
                return 0;
            }
            return number > 0 ? 1 : -1;
        }
    }

    /** The order of the nodes and the numbers of the unknowns. */
    private static final class Numbering {
        final int[] nodes = new int[NODES];
        int placed = 0;
        /** Bit n is set if node n stands in the order already. */
        private int taken = 0;
        /** Bit m of row n is set if a bar joins nodes n and m. */
        private final int[] neighbours = new int[NODES];
        final int[] unknownAt = new int[SLOTS];
        final int[] slotOfUnknown = new int[SLOTS];
        int unknowns = 0;

        void make(Truss truss) {
            findNeighbours(truss);
            placeNodes(truss);
            turnRound();
            numberSlots(truss);
        }

        private void findNeighbours(Truss truss) {
            Arrays.fill(neighbours, 0);
            for (int i = 0; i < truss.barCount; i++) {
                int a = truss.firstNodes[i];
                int b = truss.secondNodes[i];
                neighbours[a] |= 1 << b;
                neighbours[b] |= 1 << a;
            }
        }

        private void placeNodes(Truss truss) {
            placed = 0;
            taken = 0;
            int all = truss.nodeCount();
            for (int place = 0; place < all; place++) {
                if (place == placed) {
                    append(leastJoined(truss.there & ~taken));
                }
                appendNeighboursOf(nodes[place]);
            }
        }

        private void appendNeighboursOf(int n) {
            int left = Integer.bitCount(neighbours[n] & ~taken);
            for (int step = 0; step < left; step++) {
                append(leastJoined(neighbours[n] & ~taken));
            }
        }

        private void append(int n) {
            if (n < 0 || placed >= NODES) {
                return;
            }
            nodes[placed] = n;
            placed++;
            taken |= 1 << n;
        }

        /** Of the nodes whose bits are set, the least one with the fewest neighbours. */
        private int leastJoined(int among) {
            int best = -1;
            int fewest = NODES;
            for (int n = 0; n < NODES; n++) {
                int joined = Integer.bitCount(neighbours[n]);
                if ((among >> n & 1) != 0 && joined < fewest) {
                    best = n;
                    fewest = joined;
                }
            }
            return best;
        }

        private void turnRound() {
            for (int front = 0, back = placed - 1; front < back; front++, back--) {
                int moved = nodes[front];
                nodes[front] = nodes[back];
                nodes[back] = moved;
            }
        }

        private void numberSlots(Truss truss) {
            unknowns = 0;
            for (int place = 0; place < placed; place++) {
                for (int direction = 0; direction < DIRECTIONS; direction++) {
                    numberSlot(slotOf(nodes[place], direction), truss);
                }
            }
        }

        private void numberSlot(int slot, Truss truss) {
            if (truss.held[slot]) {
                unknownAt[slot] = IS_HELD;
                return;
            }
            unknownAt[slot] = unknowns;
            slotOfUnknown[unknowns] = slot;
            unknowns++;
        }
    }

    /**
     * The equations of the unknowns and their characteristic polynomial det(t - matrix), from which
     * both the determinant and the solutions follow by sums and products alone.
     *
     * <p>Elimination would need exact divisions of products that a long can't hold. Without
     * divisions, what wraps around on the way does no harm: every result, be it a determinant
     * (below 10 to the 12th) or a determinant times a displacement (below 10 to the 18th), fits a
     * long and so comes out whole.
     */
    private static final class Equations {
        /** By slots, held ones too: the pull back in the row's one per displacement in the column's. */
        final long[][] stiffness = new long[SLOTS][SLOTS];
        private final long[][] matrix = new long[SLOTS][SLOTS];
        private int size = 0;
        /** Coefficients of the characteristic polynomial, that of the highest power first. */
        private final long[] polynomial = new long[SLOTS + 1];
        private final long[] growth = new long[SLOTS + 1];
        private final long[] column = new long[SLOTS];
        private final long[] image = new long[SLOTS];

        void make(Truss truss, Numbering numbering) {
            sumUpStiffness(truss);
            size = numbering.unknowns;
            for (int i = 0; i < size; i++) {
                for (int j = 0; j < size; j++) {
                    matrix[i][j] =
                            stiffness[numbering.slotOfUnknown[i]][numbering.slotOfUnknown[j]];
                }
            }
        }

        private void sumUpStiffness(Truss truss) {
            for (int slot = 0; slot < SLOTS; slot++) {
                Arrays.fill(stiffness[slot], 0L);
                stiffness[slot][slot] = truss.springs[slot];
            }
            for (int i = 0; i < truss.barCount; i++) {
                addStiffnessOfBar(truss, i);
            }
        }

        private void addStiffnessOfBar(Truss truss, int i) {
            for (int row = 0; row < SLOTS; row++) {
                int pull = truss.stiffnesses[i] * truss.stretchBy(i, row);
                if (pull != 0) {
                    for (int other = 0; other < SLOTS; other++) {
                        stiffness[row][other] += pull * truss.stretchBy(i, other);
                    }
                }
            }
        }

        /** The weak unknown, or -1 if the structure is firm; the polynomial is whole only then. */
        int findWeakUnknown() {
            polynomial[0] = 1;
            for (int i = 0; i < size; i++) {
                growPolynomial(i);
                if (polynomial[i + 1] == 0) {
                    return i;
                }
            }
            return -1;
        }

        /**
         * From the polynomial of the rows and columns below i to that of those up to i, by the
         * algorithm of Samuelson and Berkowitz.
         */
        private void growPolynomial(int i) {
            findGrowth(i);
            polynomial[i + 1] = 0;
            for (int m = i + 1; m >= 0; m--) {
                long sum = 0;
                for (int k = 0; k <= m; k++) {
                    sum += growth[k] * polynomial[m - k];
                }
                polynomial[m] = sum;
            }
        }

        private void findGrowth(int i) {
            growth[0] = 1;
            growth[1] = -matrix[i][i];
            for (int j = 0; j < i; j++) {
                column[j] = matrix[j][i];
            }
            for (int k = 2; k <= i + 1; k++) {
                growth[k] = -rowTimes(i, column, i);
                multiply(column, i);
            }
        }

        private long rowTimes(int row, long[] vector, int length) {
            long sum = 0;
            for (int j = 0; j < length; j++) {
                sum += matrix[row][j] * vector[j];
            }
            return sum;
        }

        /** Multiplies the vector by the first rows and columns of the matrix. */
        private void multiply(long[] vector, int length) {
            for (int row = 0; row < length; row++) {
                image[row] = rowTimes(row, vector, length);
            }
            System.arraycopy(image, 0, vector, 0, length);
        }

        /** The determinant of the whole matrix. */
        long wholeMinor() {
            return size % 2 == 0 ? polynomial[size] : -polynomial[size];
        }

        /**
         * Puts the determinant times the solution for the right side into the scaled row. By Cayley
         * and Hamilton the determinant times the inverse is, up to the sign, what the polynomial
         * without its last coefficient, divided by t, makes of the matrix.
         */
        void solveScaled(long[] rightSide, long[] scaled) {
            System.arraycopy(rightSide, 0, scaled, 0, size);
            for (int k = 1; k < size; k++) {
                multiply(scaled, size);
                for (int i = 0; i < size; i++) {
                    scaled[i] += polynomial[k] * rightSide[i];
                }
            }
            if (size % 2 == 0) {
                for (int i = 0; i < size; i++) {
                    scaled[i] = -scaled[i];
                }
            }
        }

        int profile() {
            int sum = 0;
            for (int i = 0; i < size; i++) {
                int least = 0;
                while (least < i && matrix[i][least] == 0) {
                    least++;
                }
                sum += i - least;
            }
            return sum;
        }
    }

    /** What a combination of the cases does; a case is one with a single factor 1. */
    private static final class Response {
        private final int[] factors = new int[CASES];
        private final long[] loads = new long[SLOTS];
        /** By slots: displacements times the determinant. */
        final long[] numerators = new long[SLOTS];
        private final long[] rightSide = new long[SLOTS];
        private final long[] scaled = new long[SLOTS];
        private long scale = 1;

        void chooseCase(int chosen) {
            for (int c = 0; c < CASES; c++) {
                factors[c] = c == chosen ? 1 : 0;
            }
        }

        void chooseFactors(int f) {
            for (int c = 0; c < CASES; c++) {
                factors[c] = (byte) (f >> 8 * c);
            }
        }

        void respond(Truss truss, Numbering numbering, Equations equations) {
            scale = equations.wholeMinor();
            sumUpLoads(truss);
            moveHeldSlots(truss);
            findRightSide(truss, numbering, equations);
            equations.solveScaled(rightSide, scaled);
            for (int i = 0; i < numbering.unknowns; i++) {
                numerators[numbering.slotOfUnknown[i]] = scaled[i];
            }
        }

        private void sumUpLoads(Truss truss) {
            for (int slot = 0; slot < SLOTS; slot++) {
                long sum = 0;
                for (int c = 0; c < CASES; c++) {
                    sum += factors[c] * truss.loads[c][slot];
                }
                loads[slot] = sum;
            }
        }

        private void moveHeldSlots(Truss truss) {
            for (int slot = 0; slot < SLOTS; slot++) {
                numerators[slot] = truss.held[slot] ? heldDisplacement(truss, slot) * scale : 0;
            }
        }

        private long heldDisplacement(Truss truss, int slot) {
            long sum = 0;
            for (int c = 0; c < CASES; c++) {
                sum += factors[c] * truss.heldAt[slot];
            }
            return sum;
        }

        private void findRightSide(Truss truss, Numbering numbering, Equations equations) {
            for (int i = 0; i < numbering.unknowns; i++) {
                int slot = numbering.slotOfUnknown[i];
                long sum = loads[slot];
                for (int other = 0; other < SLOTS; other++) {
                    if (truss.held[other]) {
                        sum -= equations.stiffness[slot][other] * heldDisplacement(truss, other);
                    }
                }
                rightSide[i] = sum;
            }
        }

        long forceNumerator(Truss truss, int i) {
            long stretch = 0;
            for (int slot = 0; slot < SLOTS; slot++) {
                stretch += truss.stretchBy(i, slot) * numerators[slot];
            }
            return truss.stiffnesses[i] * stretch;
        }

        long reactionNumerator(Equations equations, int slot) {
            long sum = -loads[slot] * scale;
            for (int other = 0; other < SLOTS; other++) {
                sum += equations.stiffness[slot][other] * numerators[other];
            }
            return sum;
        }
    }
}
