/** Each promise of the document by hand: ordinary inputs, the edges it names, wrong inputs. */
public final class PromiseTest {
    private static final int MIN = Integer.MIN_VALUE;
    private static final int MAX = Integer.MAX_VALUE;
    private static final long NONE = TrussSolver.NONE;
    private static int wrong = 0;
    private static int asked = 0;
    private static String part = "";

    public static void main(String[] args) {
        newObject();
        nodeArguments();
        nodeMoves();
        barArguments();
        barsAreFull();
        barsMayJoinTheSameNodes();
        unbarMovesLaterOnesDown();
        unbarArguments();
        holdArguments();
        holdAndFree();
        springArguments();
        springActs();
        loadArguments();
        loadWhenSealed();
        solveAnswersInItsOrder();
        solveTestsBarsInTheirOrder();
        solveNotFirm();
        solveWithoutUnknowns();
        openAgain();
        displacements();
        forces();
        reactions();
        combinations();
        combinationOfGreatNumbers();
        determinants();
        orders();
        orderOfSeparateParts();
        orderByNeighbours();
        unknowns();
        counts();
        profiles();
        System.out.println(asked + " answers, " + wrong + " not as due");
        if (wrong != 0) {
            System.exit(1);
        }
    }

    private static void due(String call, long got, long want) {
        asked++;
        if (got != want) {
            wrong++;
            System.out.println(part + ": " + call + " answered " + got + ", due is " + want);
        }
    }

    /** Both parts of a fraction, from the answers to part 0 and part 1. */
    private static void fraction(String call, long top, long bottom, long wantTop, long wantBottom) {
        due(call + " numerator", top, wantTop);
        due(call + " denominator", bottom, wantBottom);
    }

    private static void displaced(TrussSolver t, int c, int n, int d, long top, long bottom) {
        fraction("displacement(" + c + ", " + n + ", " + d + ")", t.displacement(c, n, d, 0),
                t.displacement(c, n, d, 1), top, bottom);
    }

    private static void forced(TrussSolver t, int c, int i, long top, long bottom) {
        fraction("force(" + c + ", " + i + ")", t.force(c, i, 0), t.force(c, i, 1), top, bottom);
    }

    private static void reacted(TrussSolver t, int c, int n, int d, long top, long bottom) {
        fraction("reaction(" + c + ", " + n + ", " + d + ")", t.reaction(c, n, d, 0),
                t.reaction(c, n, d, 1), top, bottom);
    }

    private static void combinedTo(TrussSolver t, int f, int n, int d, long top, long bottom) {
        fraction("combined(" + f + ", " + n + ", " + d + ")", t.combined(f, n, d, 0),
                t.combined(f, n, d, 1), top, bottom);
    }

    /** Node 0 held at 0, 0; node 1 to its right, held in y, on a bar of stiffness 3. */
    private static TrussSolver rod() {
        TrussSolver t = new TrussSolver();
        due("node", t.node(0, 0, 0), 0);
        due("node", t.node(1, 2, 0), 0);
        due("bar", t.bar(0, 1, 3), 0);
        due("hold", t.hold(0, 0, true, 0), 0);
        due("hold", t.hold(0, 1, true, 0), 0);
        due("hold", t.hold(1, 1, true, 0), 0);
        return t;
    }

    private static TrussSolver sealedRod() {
        TrussSolver t = rod();
        due("solve", t.solve(), 1);
        return t;
    }

    /** All five nodes on a line, no bars, a spring of 1 in every direction: firm, 10 unknowns. */
    private static TrussSolver springs() {
        TrussSolver t = new TrussSolver();
        for (int n = 0; n < 5; n++) {
            due("node", t.node(n, n, 0), 0);
            due("spring", t.spring(n, 0, 1), 0);
            due("spring", t.spring(n, 1, 1), 0);
        }
        return t;
    }

    private static void newObject() {
        part = "promise 1";
        TrussSolver t = new TrussSolver();
        for (int what = 0; what <= 4; what++) {
            due("count(" + what + ")", t.count(what), 0);
        }
        due("open", t.open(), -1);
        due("unbar(0)", t.unbar(0), -1);
        due("determinant", t.determinant(), NONE);
        due("order(0)", t.order(0), -1);
        due("unknown(0, 0)", t.unknown(0, 0), -1);
        due("displacement", t.displacement(0, 0, 0, 0), NONE);
        due("force", t.force(0, 0, 0), NONE);
        due("reaction", t.reaction(0, 0, 0, 0), NONE);
        due("combined", t.combined(1, 0, 0, 0), NONE);
        due("solve", t.solve(), -100);
        due("node", t.node(2, 1, 1), 0);
        due("solve: free and without spring", t.solve(), -300);
        due("spring", t.spring(2, 0, 1), 0);
        due("solve: y has no spring", t.solve(), -301);
        due("spring", t.spring(2, 1, 1), 0);
        due("solve", t.solve(), 2);
        for (int c = 0; c < 4; c++) {
            displaced(t, c, 2, 0, 0, 1);
            displaced(t, c, 2, 1, 0, 1);
        }
        TrussSolver other = new TrussSolver();
        due("another object: count(0)", other.count(0), 0);
        due("another object: solve", other.solve(), -100);
    }

    private static void nodeArguments() {
        part = "promise 2, arguments";
        TrussSolver t = new TrussSolver();
        int[] outside = {-1, 5, MIN, MAX};
        for (int bad : outside) {
            due("node n", t.node(bad, 0, 0), -1);
            due("node x", t.node(0, bad, 0), -1);
            due("node y", t.node(0, 0, bad), -1);
        }
        due("count(0)", t.count(0), 0);
        due("node", t.node(0, 4, 4), 0);
        due("node", t.node(4, 0, 4), 0);
        due("count(0)", t.count(0), 2);
        due("node taken", t.node(4, 4, 4), -2);
        due("node taken", t.node(1, 4, 4), -2);
        due("node where it is", t.node(4, 0, 4), 0);
        due("count(0)", t.count(0), 2);
        t = sealedRod();
        due("node sealed", t.node(3, 3, 3), -4);
        due("node sealed, before taken", t.node(3, 2, 0), -4);
        due("node sealed, where it is", t.node(1, 2, 0), -4);
        due("node refused, before sealed", t.node(5, 3, 3), -1);
        due("node refused, before sealed", t.node(3, 5, 3), -1);
        due("node refused, before sealed", t.node(3, 3, -1), -1);
        due("count(0)", t.count(0), 2);
    }

    private static void nodeMoves() {
        part = "promise 2, moves";
        TrussSolver t = rod();
        due("load", t.load(0, 1, 0, 10), 0);
        due("node moved", t.node(1, 4, 0), 0);
        due("node into the point left", t.node(2, 2, 0), 0);
        due("node taken", t.node(2, 4, 0), -2);
        due("hold", t.hold(2, 0, true, 0), 0);
        due("hold", t.hold(2, 1, true, 0), 0);
        due("count(0)", t.count(0), 3);
        due("count(1)", t.count(1), 1);
        due("solve", t.solve(), 1);
        displaced(t, 0, 1, 0, 10, 3);
        due("open", t.open(), 0);
        due("node moved across", t.node(1, 3, 2), 0);
        due("solve: bar not good", t.solve(), -200);
        due("node moved onto the diagonal", t.node(1, 3, 3), 0);
        due("solve", t.solve(), 1);
        displaced(t, 0, 1, 0, 10, 3);
        reacted(t, 0, 1, 1, 10, 1);
        due("open", t.open(), 0);
        due("node moved upright", t.node(1, 0, 3), 0);
        due("solve: nothing holds x", t.solve(), -300);
    }

    private static void barArguments() {
        part = "promise 3, arguments";
        TrussSolver t = new TrussSolver();
        int[] outside = {-1, 5, MIN, MAX};
        for (int bad : outside) {
            due("bar a", t.bar(bad, 0, 1), -1);
            due("bar b", t.bar(0, bad, 1), -1);
        }
        int[] noStiffness = {0, 4, -1, MIN, MAX};
        for (int bad : noStiffness) {
            due("bar k", t.bar(0, 1, bad), -1);
        }
        for (int n = 0; n < 5; n++) {
            due("bar to itself", t.bar(n, n, 1), -1);
        }
        due("count(1)", t.count(1), 0);
        due("bar of nodes not there", t.bar(0, 4, 1), 0);
        due("bar of nodes not there", t.bar(4, 0, 3), 1);
        due("count(1)", t.count(1), 2);
        t = sealedRod();
        due("bar sealed", t.bar(0, 1, 1), -4);
        due("bar to itself, before sealed", t.bar(1, 1, 1), -1);
        due("bar a, before sealed", t.bar(-1, 1, 1), -1);
        due("bar b, before sealed", t.bar(1, 5, 1), -1);
        due("bar k, before sealed", t.bar(0, 1, 0), -1);
        due("count(1)", t.count(1), 1);
    }

    private static void barsAreFull() {
        part = "promise 3, full";
        TrussSolver t = rod();
        for (int i = 1; i < 10; i++) {
            due("bar", t.bar(1, 0, 3), i);
        }
        due("bar full", t.bar(0, 1, 1), -3);
        due("bar refused, before full", t.bar(0, 0, 1), -1);
        due("bar refused, before full", t.bar(0, 1, 4), -1);
        due("count(1)", t.count(1), 10);
        due("load", t.load(3, 1, 0, 99), 0);
        due("solve", t.solve(), 1);
        due("bar sealed, before full", t.bar(0, 1, 1), -4);
        due("determinant", t.determinant(), 30);
        displaced(t, 3, 1, 0, 33, 10);
        forced(t, 3, 9, 99, 10);
        due("open", t.open(), 0);
        due("unbar", t.unbar(0), 9);
        due("bar", t.bar(0, 1, 1), 9);
        due("bar full", t.bar(0, 1, 1), -3);
    }

    private static void barsMayJoinTheSameNodes() {
        part = "promise 3, two bars";
        TrussSolver t = rod();
        due("bar", t.bar(0, 1, 2), 1);
        due("bar", t.bar(1, 0, 1), 2);
        due("load", t.load(0, 1, 0, 5), 0);
        due("solve", t.solve(), 1);
        due("determinant", t.determinant(), 6);
        displaced(t, 0, 1, 0, 5, 6);
        forced(t, 0, 0, 5, 2);
        forced(t, 0, 1, 5, 3);
        forced(t, 0, 2, 5, 6);
    }

    private static void unbarMovesLaterOnesDown() {
        part = "promise 4, moves";
        TrussSolver t = rod();
        due("bar", t.bar(0, 1, 1), 1);
        due("bar", t.bar(0, 3, 1), 2);
        due("bar", t.bar(1, 0, 2), 3);
        due("solve: bar 2 has no node 3", t.solve(), -202);
        due("unbar", t.unbar(0), 3);
        due("solve: it is bar 1 now", t.solve(), -201);
        due("unbar", t.unbar(1), 2);
        due("count(1)", t.count(1), 2);
        due("load", t.load(0, 1, 0, 9), 0);
        due("solve", t.solve(), 1);
        due("determinant", t.determinant(), 3);
        forced(t, 0, 0, 3, 1);
        forced(t, 0, 1, 6, 1);
        due("force of no bar", t.force(0, 2, 0), NONE);
        due("open", t.open(), 0);
        due("unbar the last", t.unbar(1), 1);
        due("unbar the only", t.unbar(0), 0);
        due("unbar none", t.unbar(0), -1);
        due("bar begins anew", t.bar(0, 1, 1), 0);
    }

    private static void unbarArguments() {
        part = "promise 4, arguments";
        TrussSolver t = rod();
        int[] outside = {-1, 1, 9, 10, MIN, MAX};
        for (int bad : outside) {
            due("unbar(" + bad + ")", t.unbar(bad), -1);
        }
        due("count(1)", t.count(1), 1);
        due("solve", t.solve(), 1);
        due("unbar sealed", t.unbar(0), -4);
        due("unbar not there, before sealed", t.unbar(1), -1);
        due("unbar not there, before sealed", t.unbar(-1), -1);
        due("count(1)", t.count(1), 1);
    }

    private static void holdArguments() {
        part = "promise 5, arguments";
        TrussSolver t = new TrussSolver();
        int[] outside = {-1, 5, MIN, MAX};
        for (int bad : outside) {
            due("hold n", t.hold(bad, 0, true, 0), -1);
        }
        int[] noDirection = {-1, 2, MIN, MAX};
        for (int bad : noDirection) {
            due("hold direction", t.hold(0, bad, true, 0), -1);
        }
        int[] tooFar = {-10, 10, MIN, MAX};
        for (int bad : tooFar) {
            due("hold h", t.hold(0, 0, true, bad), -1);
            due("hold off h", t.hold(0, 0, false, bad), -1);
        }
        due("node", t.node(0, 0, 0), 0);
        due("solve: nothing was held", t.solve(), -300);
        due("hold", t.hold(0, 0, true, -9), 0);
        due("hold", t.hold(0, 1, true, 9), 0);
        due("hold refused", t.hold(0, 0, true, 10), -1);
        due("hold off refused", t.hold(0, 1, false, -10), -1);
        due("solve", t.solve(), 0);
        displaced(t, 0, 0, 0, -9, 1);
        displaced(t, 3, 0, 1, 9, 1);
        due("hold sealed", t.hold(0, 0, true, 1), -4);
        due("hold off sealed", t.hold(0, 0, false, 1), -4);
        due("hold h, before sealed", t.hold(0, 0, true, 10), -1);
        due("hold n, before sealed", t.hold(5, 0, true, 0), -1);
        due("hold direction, before sealed", t.hold(0, 2, true, 0), -1);
        displaced(t, 0, 0, 0, -9, 1);
        due("unknown", t.unknown(0, 0), -2);
    }

    private static void holdAndFree() {
        part = "promise 5, hold and free";
        TrussSolver t = new TrussSolver();
        due("hold of a node not there", t.hold(4, 0, true, 5), 0);
        due("hold of a node not there", t.hold(4, 1, true, -5), 0);
        due("solve", t.solve(), -100);
        due("node", t.node(4, 1, 1), 0);
        due("solve", t.solve(), 0);
        displaced(t, 0, 4, 0, 5, 1);
        displaced(t, 0, 4, 1, -5, 1);
        due("open", t.open(), 0);
        due("hold elsewhere", t.hold(4, 0, true, 7), 0);
        due("free", t.hold(4, 1, false, 3), 0);
        due("solve: y is free", t.solve(), -300);
        due("spring", t.spring(4, 1, 3), 0);
        due("solve", t.solve(), 1);
        displaced(t, 0, 4, 0, 7, 1);
        displaced(t, 0, 4, 1, 0, 1);
        due("open", t.open(), 0);
        due("hold again", t.hold(4, 1, true, 2), 0);
        due("solve", t.solve(), 0);
        displaced(t, 0, 4, 1, 2, 1);
    }

    private static void springArguments() {
        part = "promise 6, arguments";
        TrussSolver t = new TrussSolver();
        int[] outside = {-1, 5, MIN, MAX};
        for (int bad : outside) {
            due("spring n", t.spring(bad, 0, 1), -1);
        }
        int[] noDirection = {-1, 2, MIN, MAX};
        for (int bad : noDirection) {
            due("spring direction", t.spring(0, bad, 1), -1);
        }
        int[] noSpring = {-1, 4, MIN, MAX};
        for (int bad : noSpring) {
            due("spring k", t.spring(0, 0, bad), -1);
        }
        due("node", t.node(0, 0, 0), 0);
        due("solve: no spring was set", t.solve(), -300);
        t = sealedRod();
        due("spring sealed", t.spring(1, 0, 1), -4);
        due("spring sealed", t.spring(4, 1, 0), -4);
        due("spring n, before sealed", t.spring(5, 0, 1), -1);
        due("spring direction, before sealed", t.spring(1, -1, 1), -1);
        due("spring k, before sealed", t.spring(1, 0, 4), -1);
        due("determinant", t.determinant(), 3);
    }

    private static void springActs() {
        part = "promise 6, acts";
        TrussSolver t = new TrussSolver();
        due("spring of a node not there", t.spring(3, 0, 3), 0);
        due("spring of a node not there", t.spring(3, 1, 2), 0);
        due("node", t.node(3, 0, 4), 0);
        due("load", t.load(0, 3, 0, 10), 0);
        due("load", t.load(0, 3, 1, -4), 0);
        due("solve", t.solve(), 2);
        due("determinant", t.determinant(), 6);
        displaced(t, 0, 3, 0, 10, 3);
        displaced(t, 0, 3, 1, -2, 1);
        due("open", t.open(), 0);
        due("spring taken away", t.spring(3, 1, 0), 0);
        due("solve", t.solve(), -301);
        due("spring", t.spring(3, 1, 1), 0);
        due("solve", t.solve(), 2);
        displaced(t, 0, 3, 1, -4, 1);
    }

    private static void loadArguments() {
        part = "promise 7, arguments";
        TrussSolver t = rod();
        int[] noCase = {-1, 4, MIN, MAX};
        int[] noNode = {-1, 5, MIN, MAX};
        int[] noDirection = {-1, 2, MIN, MAX};
        int[] noLoad = {-100, 100, MIN, MAX};
        for (int round = 0; round < 2; round++) {
            for (int k = 0; k < 4; k++) {
                due("load c", t.load(noCase[k], 1, 0, 7), -1);
                due("load n", t.load(0, noNode[k], 0, 7), -1);
                due("load direction", t.load(0, 1, noDirection[k], 7), -1);
                due("load load", t.load(0, 1, 0, noLoad[k]), -1);
            }
            due("solve", t.solve(), round == 0 ? 1 : -4);
            for (int c = 0; c < 4; c++) {
                displaced(t, c, 1, 0, 0, 1);
            }
        }
        due("load", t.load(0, 1, 0, 99), 0);
        due("load", t.load(3, 1, 0, -99), 0);
        due("load of a node not there", t.load(2, 4, 1, 50), 0);
        displaced(t, 0, 1, 0, 33, 1);
        displaced(t, 1, 1, 0, 0, 1);
        displaced(t, 2, 1, 0, 0, 1);
        displaced(t, 3, 1, 0, -33, 1);
    }

    private static void loadWhenSealed() {
        part = "promise 7, sealed";
        TrussSolver t = rod();
        due("load", t.load(1, 1, 0, 10), 0);
        due("load of a node not there", t.load(1, 2, 0, 8), 0);
        due("solve", t.solve(), 1);
        displaced(t, 1, 1, 0, 10, 3);
        due("load sealed", t.load(1, 1, 0, 20), 0);
        displaced(t, 1, 1, 0, 20, 3);
        forced(t, 1, 0, 20, 1);
        due("load sealed", t.load(1, 1, 0, 0), 0);
        displaced(t, 1, 1, 0, 0, 1);
        due("count(2)", t.count(2), 1);
        due("open", t.open(), 0);
        due("node with a load from before", t.node(2, 4, 4), 0);
        due("spring", t.spring(2, 0, 3), 0);
        due("hold", t.hold(2, 1, true, 0), 0);
        due("solve", t.solve(), 2);
        displaced(t, 1, 2, 0, 8, 3);
    }

    private static void solveAnswersInItsOrder() {
        part = "promise 8, order";
        TrussSolver t = new TrussSolver();
        due("bar", t.bar(0, 1, 1), 0);
        due("solve: no node, before the bars", t.solve(), -100);
        due("node", t.node(0, 0, 0), 0);
        due("solve: no node 1, before firm", t.solve(), -200);
        due("node", t.node(1, 1, 2), 0);
        due("solve: not good, before firm", t.solve(), -200);
        due("node", t.node(1, 2, 2), 0);
        due("solve: not firm", t.solve(), -301);
        due("count(2)", t.count(2), 0);
        for (int n = 0; n < 2; n++) {
            due("hold", t.hold(n, 0, true, 0), 0);
        }
        due("hold", t.hold(0, 1, true, 0), 0);
        due("solve", t.solve(), 1);
        due("count(2)", t.count(2), 1);
        due("solve sealed", t.solve(), -4);
        due("solve sealed", t.solve(), -4);
        due("count(2)", t.count(2), 1);
    }

    private static void solveTestsBarsInTheirOrder() {
        part = "promise 8, bars";
        TrussSolver t = new TrussSolver();
        due("node", t.node(0, 0, 0), 0);
        due("node", t.node(1, 4, 4), 0);
        due("node", t.node(2, 3, 1), 0);
        due("bar good", t.bar(0, 1, 1), 0);
        due("bar good downwards", t.bar(1, 0, 1), 1);
        due("bar not good", t.bar(0, 2, 1), 2);
        due("bar without its node", t.bar(4, 0, 1), 3);
        due("bar without its node", t.bar(0, 4, 1), 4);
        due("solve", t.solve(), -202);
        due("unbar", t.unbar(2), 4);
        due("solve", t.solve(), -202);
        due("unbar", t.unbar(2), 3);
        due("solve", t.solve(), -202);
        due("node", t.node(4, 4, 0), 0);
        due("bar the other diagonal", t.bar(4, 2, 1), 3);
        due("bar across", t.bar(4, 1, 1), 4);
        due("bar not good", t.bar(1, 2, 1), 5);
        due("solve", t.solve(), -205);
        due("unbar", t.unbar(5), 5);
        due("solve: good, but not firm", t.solve(), -303);
    }

    private static void solveNotFirm() {
        part = "promise 8, firm";
        TrussSolver t = rod();
        due("free", t.hold(1, 1, false, 0), 0);
        due("solve: y of node 1", t.solve(), -301);
        due("count(3)", t.count(3), 0);
        due("spring", t.spring(1, 1, 1), 0);
        due("solve", t.solve(), 2);
        due("open", t.open(), 0);
        due("free", t.hold(0, 0, false, 0), 0);
        due("solve: the rod may slide", t.solve(), -302);
        due("spring", t.spring(0, 0, 1), 0);
        due("solve", t.solve(), 3);
        due("determinant", t.determinant(), 3);
        TrussSolver far = springs();
        due("spring", far.spring(0, 1, 0), 0);
        due("solve: y of node 0 is the last", far.solve(), -309);
        due("spring", far.spring(4, 0, 0), 0);
        due("solve: x of node 4 is the first", far.solve(), -300);
    }

    private static void solveWithoutUnknowns() {
        part = "promise 8, no unknowns";
        TrussSolver t = rod();
        due("hold", t.hold(1, 0, true, 4), 0);
        due("load", t.load(0, 1, 0, 5), 0);
        due("solve", t.solve(), 0);
        due("count(2)", t.count(2), 1);
        due("count(3)", t.count(3), 0);
        due("count(4)", t.count(4), 0);
        due("determinant", t.determinant(), 1);
        displaced(t, 0, 1, 0, 4, 1);
        forced(t, 0, 0, 12, 1);
        reacted(t, 0, 0, 0, -12, 1);
        reacted(t, 0, 1, 0, 7, 1);
        combinedTo(t, 0x00FF0203, 1, 0, 16, 1);
        due("solve sealed", t.solve(), -4);
    }

    private static void openAgain() {
        part = "promise 9";
        TrussSolver t = rod();
        due("open when open", t.open(), -1);
        due("load", t.load(2, 1, 0, 6), 0);
        due("solve", t.solve(), 1);
        due("open", t.open(), 0);
        due("open when open", t.open(), -1);
        due("count(0)", t.count(0), 2);
        due("count(1)", t.count(1), 1);
        due("count(2)", t.count(2), 0);
        due("count(3)", t.count(3), 0);
        due("count(4)", t.count(4), 0);
        due("displacement", t.displacement(2, 1, 0, 0), NONE);
        due("determinant", t.determinant(), NONE);
        due("solve again", t.solve(), 1);
        displaced(t, 2, 1, 0, 2, 1);
        due("open", t.open(), 0);
        due("bar", t.bar(0, 1, 3), 1);
        due("solve again", t.solve(), 1);
        displaced(t, 2, 1, 0, 1, 1);
        due("open", t.open(), 0);
        due("unbar", t.unbar(1), 1);
        due("unbar", t.unbar(0), 0);
        due("solve fails", t.solve(), -300);
        due("open when still open", t.open(), -1);
    }

    /** Nodes 0 and 2 held, node 1 above and between them on two diagonals. */
    private static TrussSolver roof() {
        TrussSolver t = new TrussSolver();
        due("node", t.node(0, 0, 1), 0);
        due("node", t.node(1, 1, 2), 0);
        due("node", t.node(2, 3, 0), 0);
        due("bar", t.bar(0, 1, 1), 0);
        due("bar", t.bar(2, 1, 2), 1);
        due("hold", t.hold(0, 0, true, 0), 0);
        due("hold", t.hold(0, 1, true, 0), 0);
        due("hold", t.hold(2, 0, true, 0), 0);
        due("hold", t.hold(2, 1, true, 0), 0);
        return t;
    }

    private static void displacements() {
        part = "promise 10";
        TrussSolver t = roof();
        due("load", t.load(0, 1, 0, 3), 0);
        due("load", t.load(1, 1, 1, -8), 0);
        due("displacement open", t.displacement(0, 1, 0, 0), NONE);
        due("solve", t.solve(), 2);
        displaced(t, 0, 1, 0, 9, 8);
        displaced(t, 0, 1, 1, 3, 8);
        displaced(t, 1, 1, 0, -1, 1);
        displaced(t, 1, 1, 1, -3, 1);
        displaced(t, 2, 1, 1, 0, 1);
        displaced(t, 0, 0, 0, 0, 1);
        for (int p = 0; p < 2; p++) {
            int[] outside = {-1, MIN, MAX};
            for (int bad : outside) {
                due("c", t.displacement(bad, 1, 0, p), NONE);
                due("n", t.displacement(0, bad, 0, p), NONE);
                due("direction", t.displacement(0, 1, bad, p), NONE);
                due("part", t.displacement(0, 1, 0, bad), NONE);
            }
            due("c", t.displacement(4, 1, 0, p), NONE);
            due("n not there", t.displacement(0, 3, 0, p), NONE);
            due("n not there", t.displacement(0, 4, 1, p), NONE);
            due("n", t.displacement(0, 5, 0, p), NONE);
            due("direction", t.displacement(0, 1, 2, p), NONE);
            due("part", t.displacement(0, 1, 0, 2), NONE);
        }
        due("open", t.open(), 0);
        due("hold", t.hold(0, 0, true, 4), 0);
        due("displacement open", t.displacement(0, 1, 0, 0), NONE);
        due("displacement open, held", t.displacement(0, 0, 0, 0), NONE);
        due("solve", t.solve(), 2);
        displaced(t, 2, 1, 0, 2, 1);
        displaced(t, 2, 1, 1, 2, 1);
        displaced(t, 0, 1, 0, 25, 8);
        displaced(t, 0, 0, 0, 4, 1);
    }

    private static void forces() {
        part = "promise 11";
        TrussSolver t = roof();
        due("load", t.load(0, 1, 0, 3), 0);
        due("load", t.load(1, 1, 1, -8), 0);
        due("force open", t.force(0, 0, 0), NONE);
        due("solve", t.solve(), 2);
        forced(t, 0, 0, 3, 2);
        forced(t, 0, 1, -3, 2);
        forced(t, 1, 0, -4, 1);
        forced(t, 1, 1, -4, 1);
        forced(t, 3, 0, 0, 1);
        for (int p = 0; p < 2; p++) {
            int[] outside = {-1, MIN, MAX};
            for (int bad : outside) {
                due("c", t.force(bad, 0, p), NONE);
                due("i", t.force(0, bad, p), NONE);
                due("part", t.force(0, 0, bad), NONE);
            }
            due("c", t.force(4, 0, p), NONE);
            due("i not there", t.force(0, 2, p), NONE);
            due("i", t.force(0, 10, p), NONE);
            due("part", t.force(0, 0, 2), NONE);
        }
        due("load sealed", t.load(0, 1, 1, 3), 0);
        forced(t, 0, 0, 3, 1);
        forced(t, 0, 1, 0, 1);
        due("open", t.open(), 0);
        due("force open", t.force(0, 0, 0), NONE);
        TrussSolver held = rod();
        due("hold", held.hold(0, 0, true, -2), 0);
        due("hold", held.hold(1, 0, true, 3), 0);
        due("bar the other way", held.bar(1, 0, 1), 1);
        due("solve", held.solve(), 0);
        forced(held, 0, 0, 15, 1);
        forced(held, 0, 1, 5, 1);
    }

    private static void reactions() {
        part = "promise 12";
        TrussSolver t = roof();
        due("load", t.load(0, 1, 0, 3), 0);
        due("load on a held direction", t.load(0, 2, 1, 10), 0);
        due("reaction open", t.reaction(0, 0, 0, 0), NONE);
        due("hold of a node not there", t.hold(4, 0, true, 1), 0);
        due("solve", t.solve(), 2);
        reacted(t, 0, 0, 0, -3, 2);
        reacted(t, 0, 0, 1, -3, 2);
        reacted(t, 0, 2, 0, -3, 2);
        reacted(t, 0, 2, 1, -17, 2);
        reacted(t, 1, 2, 1, 0, 1);
        for (int p = 0; p < 2; p++) {
            due("not held", t.reaction(0, 1, 0, p), NONE);
            due("not held", t.reaction(0, 1, 1, p), NONE);
            due("held, but not there", t.reaction(0, 4, 0, p), NONE);
            int[] outside = {-1, MIN, MAX};
            for (int bad : outside) {
                due("c", t.reaction(bad, 0, 0, p), NONE);
                due("n", t.reaction(0, bad, 0, p), NONE);
                due("direction", t.reaction(0, 0, bad, p), NONE);
                due("part", t.reaction(0, 0, 0, bad), NONE);
            }
            due("c", t.reaction(4, 0, 0, p), NONE);
            due("n", t.reaction(0, 5, 0, p), NONE);
            due("direction", t.reaction(0, 0, 2, p), NONE);
            due("part", t.reaction(0, 0, 0, 2), NONE);
        }
        due("open", t.open(), 0);
        due("reaction open", t.reaction(0, 0, 0, 0), NONE);
        TrussSolver sprung = new TrussSolver();
        due("node", sprung.node(0, 2, 2), 0);
        due("hold", sprung.hold(0, 0, true, -5), 0);
        due("hold", sprung.hold(0, 1, true, 5), 0);
        due("spring of a held direction", sprung.spring(0, 0, 3), 0);
        due("load", sprung.load(0, 0, 0, 4), 0);
        due("load", sprung.load(0, 0, 1, 4), 0);
        due("solve", sprung.solve(), 0);
        reacted(sprung, 0, 0, 0, -19, 1);
        reacted(sprung, 0, 0, 1, -4, 1);
        reacted(sprung, 1, 0, 0, -15, 1);
        due("load sealed", sprung.load(0, 0, 1, -4), 0);
        reacted(sprung, 0, 0, 1, 4, 1);
    }

    private static void combinations() {
        part = "promise 13";
        TrussSolver t = rod();
        due("hold", t.hold(0, 0, true, 2), 0);
        due("load", t.load(0, 1, 0, 1), 0);
        due("load", t.load(1, 1, 0, 10), 0);
        due("load", t.load(2, 1, 0, 20), 0);
        due("load", t.load(3, 1, 0, 40), 0);
        due("combined open", t.combined(1, 1, 0, 0), NONE);
        due("solve", t.solve(), 1);
        combinedTo(t, 0, 1, 0, 0, 1);
        combinedTo(t, 0, 0, 0, 0, 1);
        combinedTo(t, 0x00000001, 1, 0, 7, 3);
        combinedTo(t, 0x00000100, 1, 0, 16, 3);
        combinedTo(t, 0x00010000, 1, 0, 26, 3);
        combinedTo(t, 0x01000000, 1, 0, 46, 3);
        combinedTo(t, 0x01010101, 1, 0, 95, 3);
        combinedTo(t, 0xFFFFFFFF, 1, 0, -95, 3);
        combinedTo(t, 0x000000FF, 1, 0, -7, 3);
        combinedTo(t, 0x0000007F, 1, 0, 889, 3);
        combinedTo(t, 0x00000080, 1, 0, -896, 3);
        combinedTo(t, 0x80000000, 1, 0, -5888, 3);
        combinedTo(t, 0x7F000000, 1, 0, 5842, 3);
        combinedTo(t, 0x00FF0001, 1, 0, -19, 3);
        combinedTo(t, 0x000000FD, 0, 0, -6, 1);
        combinedTo(t, 0x80808080, 0, 0, -1024, 1);
        combinedTo(t, 0x7F7F7F7F, 0, 0, 1016, 1);
        combinedTo(t, 0x01010101, 1, 1, 0, 1);
        due("load sealed", t.load(3, 1, 0, 43), 0);
        combinedTo(t, 0x01000000, 1, 0, 49, 3);
        for (int p = 0; p < 2; p++) {
            int[] outside = {-1, MIN, MAX};
            for (int bad : outside) {
                due("n", t.combined(1, bad, 0, p), NONE);
                due("direction", t.combined(1, 1, bad, p), NONE);
                due("part", t.combined(1, 1, 0, bad), NONE);
            }
            due("n", t.combined(1, 5, 0, p), NONE);
            due("n not there", t.combined(1, 2, 0, p), NONE);
            due("direction", t.combined(1, 1, 2, p), NONE);
            due("part", t.combined(1, 1, 0, 2), NONE);
        }
        due("open", t.open(), 0);
        due("combined open", t.combined(1, 1, 0, 0), NONE);
    }

    /** Stiffest bars and springs, greatest loads and factors; the answers come from the model. */
    private static void combinationOfGreatNumbers() {
        part = "promise 13, great numbers";
        TrussSolver t = great();
        due("determinant", t.determinant(), GREAT_DETERMINANT);
        for (int n = 0; n < 5; n++) {
            for (int d = 0; d < 2; d++) {
                combinedTo(t, 0x80808080, n, d, GREAT[4 * n + 2 * d], GREAT[4 * n + 2 * d + 1]);
            }
        }
    }

    private static final long GREAT_DETERMINANT = 5481577719L;
    private static final long[] GREAT = {
        -1918646272L, 278493L, -4545324032L, 278493L, 670835200L, 278493L, -2789382656L, 278493L,
        -2684910080L, 278493L, -5110162432L, 278493L, 193318912L, 92831L, -4889270272L, 278493L,
        -482570752L, 92831L, -5955301888L, 278493L
    };

    private static TrussSolver great() {
        int[] points = {2, 0, 0, 2, 1, 1, 3, 1, 2, 2};
        int[] ends = {4, 2, 0, 2, 2, 4, 1, 0, 3, 0, 4, 1, 0, 4, 2, 1, 3, 4, 4, 3};
        TrussSolver t = new TrussSolver();
        for (int n = 0; n < 5; n++) {
            due("node", t.node(n, points[2 * n], points[2 * n + 1]), 0);
            due("spring", t.spring(n, 0, 3), 0);
            due("spring", t.spring(n, 1, 3), 0);
            for (int c = 0; c < 4; c++) {
                due("load", t.load(c, n, 0, n % 2 == 0 ? 99 : -98), 0);
                due("load", t.load(c, n, 1, c % 2 == 0 ? 99 : 97), 0);
            }
        }
        for (int i = 0; i < 10; i++) {
            due("bar", t.bar(ends[2 * i], ends[2 * i + 1], 3), i);
        }
        due("solve", t.solve(), 10);
        return t;
    }

    private static void determinants() {
        part = "promise 14";
        TrussSolver t = roof();
        due("determinant open", t.determinant(), NONE);
        due("solve", t.solve(), 2);
        due("determinant", t.determinant(), 8);
        due("load does not matter", t.load(0, 1, 0, 9), 0);
        due("determinant", t.determinant(), 8);
        due("open", t.open(), 0);
        due("determinant open", t.determinant(), NONE);
        due("spring", t.spring(1, 0, 3), 0);
        due("spring of a held direction", t.spring(0, 0, 3), 0);
        due("spring of a node not there", t.spring(3, 0, 3), 0);
        due("solve", t.solve(), 2);
        due("determinant", t.determinant(), 17);
        TrussSolver alone = springs();
        for (int n = 0; n < 5; n++) {
            due("spring", alone.spring(n, 0, 3), 0);
            due("spring", alone.spring(n, 1, 3), 0);
        }
        due("solve", alone.solve(), 10);
        due("determinant", alone.determinant(), 59049);
        TrussSolver fails = new TrussSolver();
        due("node", fails.node(0, 0, 0), 0);
        due("solve", fails.solve(), -300);
        due("determinant open", fails.determinant(), NONE);
    }

    private static void ordered(TrussSolver t, int... nodes) {
        for (int i = 0; i < nodes.length; i++) {
            due("order(" + i + ")", t.order(i), nodes[i]);
        }
        int[] outside = {-1, nodes.length, 5, MIN, MAX};
        for (int bad : outside) {
            due("order(" + bad + ")", t.order(bad), -1);
        }
    }

    private static void orders() {
        part = "promise 15";
        TrussSolver t = roof();
        due("order open", t.order(0), -1);
        due("solve", t.solve(), 2);
        ordered(t, 2, 1, 0);
        due("open", t.open(), 0);
        due("order open", t.order(0), -1);
        due("order open", t.order(2), -1);
        TrussSolver one = new TrussSolver();
        due("node", one.node(3, 0, 0), 0);
        due("hold", one.hold(3, 0, true, 0), 0);
        due("hold", one.hold(3, 1, true, 0), 0);
        due("solve", one.solve(), 0);
        ordered(one, 3);
        TrussSolver none = springs();
        due("solve", none.solve(), 10);
        ordered(none, 4, 3, 2, 1, 0);
    }

    private static void orderOfSeparateParts() {
        part = "promise 15, separate parts";
        TrussSolver t = springs();
        due("bar", t.bar(0, 3, 1), 0);
        due("bar twice", t.bar(3, 0, 1), 1);
        due("bar", t.bar(1, 4, 1), 2);
        due("solve", t.solve(), 10);
        ordered(t, 4, 1, 3, 0, 2);
        due("open", t.open(), 0);
        due("bar", t.bar(1, 2, 1), 3);
        due("bar", t.bar(2, 4, 1), 4);
        due("solve: the pair first, then the ring", t.solve(), 10);
        ordered(t, 4, 2, 1, 3, 0);
        due("open", t.open(), 0);
        due("unbar", t.unbar(3), 4);
        due("solve", t.solve(), 10);
        ordered(t, 2, 4, 1, 3, 0);
    }

    private static void orderByNeighbours() {
        part = "promise 15, by neighbours";
        TrussSolver t = springs();
        due("bar", t.bar(4, 0, 1), 0);
        due("bar", t.bar(4, 1, 1), 1);
        due("bar", t.bar(4, 2, 1), 2);
        due("bar", t.bar(0, 1, 1), 3);
        due("bar", t.bar(0, 3, 1), 4);
        due("bar", t.bar(1, 3, 1), 5);
        due("solve: begins with 2", t.solve(), 10);
        ordered(t, 3, 1, 0, 4, 2);
        due("open", t.open(), 0);
        due("bar", t.bar(2, 0, 1), 6);
        due("solve: 2 and 3 have two, 0 has more than 4 and 1", t.solve(), 10);
        ordered(t, 3, 1, 0, 4, 2);
        due("open", t.open(), 0);
        due("bar that adds no neighbour", t.bar(2, 0, 1), 7);
        due("bar that adds no neighbour", t.bar(0, 2, 1), 8);
        due("solve", t.solve(), 10);
        ordered(t, 3, 1, 0, 4, 2);
    }

    private static void unknowns() {
        part = "promise 16";
        TrussSolver t = roof();
        due("unknown open", t.unknown(1, 0), -1);
        due("hold of a node not there", t.hold(4, 0, true, 0), 0);
        due("free", t.hold(2, 1, false, 0), 0);
        due("spring", t.spring(2, 1, 1), 0);
        due("solve", t.solve(), 3);
        due("unknown", t.unknown(2, 0), -2);
        due("unknown", t.unknown(2, 1), 0);
        due("unknown", t.unknown(1, 0), 1);
        due("unknown", t.unknown(1, 1), 2);
        due("unknown", t.unknown(0, 0), -2);
        due("unknown", t.unknown(0, 1), -2);
        due("not there", t.unknown(3, 0), -1);
        due("not there, though held", t.unknown(4, 0), -1);
        int[] outside = {-1, MIN, MAX};
        for (int bad : outside) {
            due("n", t.unknown(bad, 0), -1);
            due("direction", t.unknown(1, bad), -1);
            due("direction of a held node", t.unknown(0, bad), -1);
        }
        due("n", t.unknown(5, 0), -1);
        due("direction", t.unknown(1, 2), -1);
        due("open", t.open(), 0);
        due("unknown open", t.unknown(1, 0), -1);
        due("unknown open, held", t.unknown(0, 0), -1);
        TrussSolver all = springs();
        due("solve", all.solve(), 10);
        for (int n = 0; n < 5; n++) {
            due("unknown x", all.unknown(n, 0), 2 * (4 - n));
            due("unknown y", all.unknown(n, 1), 2 * (4 - n) + 1);
        }
    }

    private static void counts() {
        part = "promise 17";
        TrussSolver t = new TrussSolver();
        int[] outside = {-1, 5, MIN, MAX};
        for (int bad : outside) {
            due("count(" + bad + ")", t.count(bad), -1);
        }
        due("node", t.node(4, 0, 0), 0);
        due("count(0)", t.count(0), 1);
        due("node moved", t.node(4, 1, 0), 0);
        due("count(0)", t.count(0), 1);
        due("node", t.node(2, 4, 0), 0);
        due("count(0)", t.count(0), 2);
        due("bar", t.bar(2, 4, 1), 0);
        due("bar", t.bar(2, 0, 1), 1);
        due("count(1)", t.count(1), 2);
        due("unbar", t.unbar(1), 1);
        due("count(1)", t.count(1), 1);
        due("count(2)", t.count(2), 0);
        due("count(3)", t.count(3), 0);
        due("count(4)", t.count(4), 0);
        due("solve", t.solve(), -301);
        due("count(2)", t.count(2), 0);
        due("count(3)", t.count(3), 0);
        due("count(4)", t.count(4), 0);
        due("hold", t.hold(2, 1, true, 0), 0);
        due("hold", t.hold(4, 1, true, 0), 0);
        due("spring", t.spring(2, 0, 1), 0);
        due("solve", t.solve(), 2);
        due("count(0)", t.count(0), 2);
        due("count(1)", t.count(1), 1);
        due("count(2)", t.count(2), 1);
        due("count(3)", t.count(3), 2);
        due("count(4)", t.count(4), 1);
        for (int bad : outside) {
            due("count(" + bad + ")", t.count(bad), -1);
        }
        due("open", t.open(), 0);
        due("count(2)", t.count(2), 0);
        due("count(3)", t.count(3), 0);
        due("count(4)", t.count(4), 0);
    }

    private static void profiles() {
        part = "promise 17, profile";
        TrussSolver t = springs();
        due("solve", t.solve(), 10);
        due("profile without bars", t.count(4), 0);
        due("open", t.open(), 0);
        due("bar along x", t.bar(0, 1, 1), 0);
        due("solve", t.solve(), 10);
        due("profile: x to x", t.count(4), 2);
        TrussSolver cross = new TrussSolver();
        due("node", cross.node(0, 2, 2), 0);
        due("node", cross.node(1, 1, 1), 0);
        due("node", cross.node(2, 3, 1), 0);
        for (int n = 1; n < 3; n++) {
            due("hold", cross.hold(n, 0, true, 0), 0);
            due("hold", cross.hold(n, 1, true, 0), 0);
        }
        due("bar", cross.bar(0, 1, 2), 0);
        due("bar", cross.bar(0, 2, 1), 1);
        due("solve", cross.solve(), 2);
        due("profile: x and y of node 0 go together", cross.count(4), 1);
        due("open", cross.open(), 0);
        due("bar", cross.bar(2, 0, 1), 2);
        due("solve", cross.solve(), 2);
        due("profile: they cancel out", cross.count(4), 0);
        due("determinant", cross.determinant(), 16);
    }
}
