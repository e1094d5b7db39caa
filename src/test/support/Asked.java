import java.util.Arrays;

/** A new TrussSolver, each of whose calls is made together with the answer that is due. */
final class Asked {
    static final int MOST_CALLS = 512;
    private static final long NONE = TrussSolver.NONE;

    private final TrussSolver solver = new TrussSolver();
    private int calls = 0;

    /** Five nodes on the line y = 0, in each direction a spring of 1: firm with any bars. */
    static Asked sprung() {
        Asked t = new Asked();
        for (int n = 0; n < 5; n++) {
            t.node(n, n, 0, 0).spring(n, 0, 1, 0).spring(n, 1, 1, 0);
        }
        return t;
    }

    /** Node 0 held at 0, 0; node 1 two to its right, held in y at 0; a bar of stiffness 3. */
    static Asked rod() {
        return new Asked().node(0, 0, 0, 0).node(1, 2, 0, 0).bar(0, 1, 3, 0)
                .fix(0).hold(1, 1, true, 0, 0);
    }

    static Asked sealedRod() {
        return rod().solve(1);
    }

    /** The corners of a square and its middle, each joined to each by one bar: 10 bars. */
    static Asked allJoined(int k) {
        int[] points = {0, 0, 4, 0, 0, 4, 4, 4, 2, 2};
        Asked t = new Asked();
        for (int n = 0; n < 5; n++) {
            t.node(n, points[2 * n], points[2 * n + 1], 0);
        }
        int number = 0;
        for (int a = 0; a < 5; a++) {
            for (int b = a + 1; b < 5; b++) {
                t.bar(a, b, k, number);
                number++;
            }
        }
        return t;
    }

    /** Numbers outside of least .. greatest: next to it, far off, and such as wrap around into it. */
    static int[] outside(int least, int greatest) {
        int[] tried = {least - 1, greatest + 1, least - 2, greatest + 2, least + 32, least - 32,
            least + 256, least - 256, least + 65536, least - 65536, least + (1 << 30),
            Integer.MIN_VALUE, Integer.MIN_VALUE + 1, Integer.MAX_VALUE, Integer.MAX_VALUE - 1};
        return Arrays.stream(tried).filter(one -> one < least || one > greatest).distinct()
                .toArray();
    }

    int calls() {
        return calls;
    }

    Asked node(int n, int x, int y, int want) {
        return due("node", solver.node(n, x, y), want, n, x, y);
    }

    Asked bar(int a, int b, int k, int want) {
        return due("bar", solver.bar(a, b, k), want, a, b, k);
    }

    Asked unbar(int i, int want) {
        return due("unbar", solver.unbar(i), want, i);
    }

    Asked hold(int n, int direction, boolean on, int h, int want) {
        return due(on ? "hold on" : "hold off", solver.hold(n, direction, on, h), want, n,
                direction, h);
    }

    /** Holds both directions at 0. */
    Asked fix(int n) {
        return hold(n, 0, true, 0, 0).hold(n, 1, true, 0, 0);
    }

    Asked spring(int n, int direction, int k, int want) {
        return due("spring", solver.spring(n, direction, k), want, n, direction, k);
    }

    Asked load(int c, int n, int direction, int load, int want) {
        return due("load", solver.load(c, n, direction, load), want, c, n, direction, load);
    }

    Asked solve(int want) {
        return due("solve", solver.solve(), want);
    }

    Asked open(int want) {
        return due("open", solver.open(), want);
    }

    Asked displacementPart(int c, int n, int direction, int part, long want) {
        return due("displacement", solver.displacement(c, n, direction, part), want, c, n,
                direction, part);
    }

    Asked displacement(int c, int n, int direction, long top, long bottom) {
        return displacementPart(c, n, direction, 0, top)
                .displacementPart(c, n, direction, 1, bottom);
    }

    Asked noDisplacement(int c, int n, int direction) {
        return displacement(c, n, direction, NONE, NONE);
    }

    Asked forcePart(int c, int i, int part, long want) {
        return due("force", solver.force(c, i, part), want, c, i, part);
    }

    Asked force(int c, int i, long top, long bottom) {
        return forcePart(c, i, 0, top).forcePart(c, i, 1, bottom);
    }

    Asked noForce(int c, int i) {
        return force(c, i, NONE, NONE);
    }

    Asked reactionPart(int c, int n, int direction, int part, long want) {
        return due("reaction", solver.reaction(c, n, direction, part), want, c, n, direction,
                part);
    }

    Asked reaction(int c, int n, int direction, long top, long bottom) {
        return reactionPart(c, n, direction, 0, top).reactionPart(c, n, direction, 1, bottom);
    }

    Asked noReaction(int c, int n, int direction) {
        return reaction(c, n, direction, NONE, NONE);
    }

    Asked combinedPart(int f, int n, int direction, int part, long want) {
        return due("combined", solver.combined(f, n, direction, part), want, f, n, direction,
                part);
    }

    Asked combined(int f, int n, int direction, long top, long bottom) {
        return combinedPart(f, n, direction, 0, top).combinedPart(f, n, direction, 1, bottom);
    }

    Asked noCombined(int f, int n, int direction) {
        return combined(f, n, direction, NONE, NONE);
    }

    Asked determinant(long want) {
        return due("determinant", solver.determinant(), want);
    }

    Asked order(int i, int want) {
        return due("order", solver.order(i), want, i);
    }

    /** The whole order, and that there is no place behind it. */
    Asked wholeOrder(int... nodes) {
        for (int i = 0; i < nodes.length; i++) {
            order(i, nodes[i]);
        }
        return order(nodes.length, -1);
    }

    Asked unknown(int n, int direction, int want) {
        return due("unknown", solver.unknown(n, direction), want, n, direction);
    }

    Asked count(int what, int want) {
        return due("count", solver.count(what), want, what);
    }

    /** What count answers to 0, 1, .. */
    Asked counts(int... wants) {
        for (int what = 0; what < wants.length; what++) {
            count(what, wants[what]);
        }
        return this;
    }

    /** All that can be asked of a structure (281 calls) is answered as the other answers it. */
    Asked answersLike(Asked other) {
        TrussSolver like = other.solver;
        other.calls += 281;
        for (int what = 0; what < 5; what++) {
            count(what, like.count(what));
            order(what, like.order(what));
        }
        determinant(like.determinant());
        for (int n = 0; n < 5; n++) {
            for (int direction = 0; direction < 2; direction++) {
                unknown(n, direction, like.unknown(n, direction));
                for (int part = 0; part < 2; part++) {
                    combinedPart(0x7F80FD02, n, direction, part,
                            like.combined(0x7F80FD02, n, direction, part));
                }
            }
        }
        for (int c = 0; c < 4; c++) {
            for (int i = 0; i < 10; i++) {
                for (int part = 0; part < 2; part++) {
                    int n = i / 2;
                    int direction = i % 2;
                    displacementPart(c, n, direction, part,
                            like.displacement(c, n, direction, part));
                    reactionPart(c, n, direction, part, like.reaction(c, n, direction, part));
                    forcePart(c, i, part, like.force(c, i, part));
                }
            }
        }
        return this;
    }

    private Asked due(String call, long got, long want, int... args) {
        calls++;
        String arguments = Arrays.toString(args);
        Report.due(call + "(" + arguments.substring(1, arguments.length() - 1) + ")", got, want);
        if (calls > MOST_CALLS) {
            Report.due("the test: calls of one object above", calls, MOST_CALLS);
        }
        return this;
    }
}
