import java.util.ArrayList;
import java.util.List;

/** The boundary cases that the sections 'What it is' and 'Terms' name, a test for each sentence. */
public final class TermsBoundaryTest {
    private static final int MIN = Integer.MIN_VALUE;
    private static final int MAX = Integer.MAX_VALUE;

    public static void main(String[] args) {
        fiveHundredAndTwelveCalls();
        nodesOnTheGrid();
        twoDirections();
        heldAndSprung();
        barsAreNumbered();
        barsJoinTwoNodes();
        goodBars();
        signsOfABar();
        twoBarsMayJoinTheSameNodes();
        stretchOfABar();
        pullsOfABar();
        casesAndLoads();
        solvedDirections();
        matrixOfAllCases();
        unknownsAreNumbered();
        orderBegins();
        orderGoesThrough();
        orderGoesOn();
        orderIsTurnedRound();
        everyOrderAndProfile();
        profiles();
        firm();
        weakUnknowns();
        fractions();
        openOrSealed();
        argumentsComeFirst();
        Report.end();
    }

    private static void terms(String words) {
        Report.sentence("Terms", words);
    }

    private static void fiveHundredAndTwelveCalls() {
        Report.sentence("What it is", "An object is used for at most 512 calls after it has been"
                + " made; what later calls answer is free.");
        Asked counted = new Asked();
        while (counted.calls() < Asked.MOST_CALLS - 2) {
            counted.count(0, 0);
        }
        counted.node(4, 4, 4, 0).count(0, 1);
        Asked changed = new Asked();
        while (changed.calls() < Asked.MOST_CALLS) {
            changed.bar(0, 1, 1, 0).unbar(0, 0);
        }
        Asked sealed = Asked.rod();
        while (sealed.calls() < Asked.MOST_CALLS) {
            sealed.solve(1).open(0);
        }
        Asked loaded = Asked.sealedRod().open(0).solve(1).count(3, 1);
        for (int load = 0; loaded.calls() < Asked.MOST_CALLS; load = (load + 1) % 33) {
            loaded.load(3, 1, 0, 3 * load, 0).displacementPart(3, 1, 0, 0, load);
        }
        Asked refused = new Asked();
        while (refused.calls() < Asked.MOST_CALLS - 2) {
            refused.node(5, 0, 0, -1).solve(-100);
        }
        refused.node(0, 0, 0, 0).solve(-300);
    }

    private static void nodesOnTheGrid() {
        terms("NODES 0 .. 4, each at a grid point (x and y 0 .. 4), no two at the same one.");
        for (int n = 0; n < 5; n++) {
            Asked alone = new Asked();
            for (int point = 0; point < 25; point++) {
                alone.node(n, point / 5, point % 5, 0).count(0, 1);
            }
            for (int bad : Asked.outside(0, 4)) {
                alone.node(bad, 1, 1, -1).node(n, bad, 1, -1).node(n, 1, bad, -1);
            }
            alone.count(0, 1);
        }
        for (int a = 0; a < 5; a++) {
            for (int b = 0; b < 5; b++) {
                Asked two = new Asked();
                for (int point = 0; point < 25 && a != b; point++) {
                    int x = point / 5;
                    int y = point % 5;
                    two.node(a, x, y, 0).node(b, x, y, -2).count(0, 1);
                }
            }
        }
        Asked all = new Asked();
        for (int n = 0; n < 5; n++) {
            all.count(0, n).node(n, 4 - n, n, 0);
        }
        all.count(0, 5);
        for (int n = 0; n < 5; n++) {
            for (int other = 0; other < 5; other++) {
                all.node(n, 4 - other, other, n == other ? 0 : -2);
            }
        }
    }

    private static void twoDirections() {
        terms("A node has two DIRECTIONS, 0 (x) and 1 (y).");
        Asked t = new Asked().node(2, 3, 3, 0);
        for (int bad : Asked.outside(0, 1)) {
            t.hold(2, bad, true, 1, -1).spring(2, bad, 1, -1).load(0, 2, bad, 1, -1);
        }
        t.solve(-300).spring(2, 0, 1, 0).hold(2, 1, true, 7, 0).load(0, 2, 0, 5, 0).solve(1);
        for (int bad : Asked.outside(0, 1)) {
            t.noDisplacement(0, 2, bad).noReaction(0, 2, bad).noCombined(1, 2, bad);
            t.unknown(2, bad, -1);
        }
        t.displacement(0, 2, 0, 5, 1).displacement(0, 2, 1, 7, 1);
        Asked alongX = Asked.sprung().bar(0, 1, 3, 0).load(0, 1, 0, 7, 0).load(0, 1, 1, 7, 0)
                .solve(10);
        alongX.displacement(0, 0, 0, 3, 1).displacement(0, 1, 0, 4, 1);
        alongX.displacement(0, 0, 1, 0, 1).displacement(0, 1, 1, 7, 1);
    }

    private static void heldAndSprung() {
        terms("In each it is FREE or HELD at a displacement h (a whole number -9 .. 9), free at"
                + " first, and has a SPRING (0 .. 3), 0 at first.");
        for (int slot = 0; slot < 10; slot++) {
            int n = slot / 2;
            int d = slot % 2;
            new Asked().node(n, 2, 2, 0).hold(n, 1 - d, true, 0, 0).solve(-300);
            new Asked().node(n, 2, 2, 0).hold(n, 1 - d, true, 0, 0).spring(n, d, 1, 0).solve(1)
                    .unknown(n, d, 0).noReaction(0, n, d);
            Asked held = new Asked().node(n, 2, 2, 0).fix(n);
            for (int h = -9; h <= 9; h++) {
                held.hold(n, d, true, h, 0).solve(0).displacement(1, n, d, h, 1).open(0);
            }
            for (int bad : Asked.outside(-9, 9)) {
                held.hold(n, d, true, bad, -1).hold(n, d, false, bad, -1);
            }
            held.solve(0).displacement(1, n, d, 9, 1);
            Asked sprung = new Asked().node(n, 2, 2, 0).hold(n, 1 - d, true, 0, 0);
            for (int k = 1; k <= 3; k++) {
                sprung.spring(n, d, k, 0).solve(1).determinant(k).open(0);
            }
            for (int bad : Asked.outside(0, 3)) {
                sprung.spring(n, d, bad, -1);
            }
            sprung.solve(1).determinant(3).open(0).spring(n, d, 0, 0).solve(-300);
        }
    }

    private static void barsAreNumbered() {
        terms("BARS are numbered 0, 1, .. (at most 10).");
        Asked t = new Asked();
        for (int i = 0; i < 10; i++) {
            t.count(1, i).bar(i % 5, (i + 1) % 5, 1 + i % 3, i);
        }
        t.count(1, 10).bar(0, 1, 1, -3).bar(3, 4, 3, -3).count(1, 10);
        t.unbar(9, 9).bar(0, 1, 1, 9).bar(0, 1, 1, -3).count(1, 10);
    }

    private static void barsJoinTwoNodes() {
        terms("A bar joins two different nodes and has a STIFFNESS k (1 .. 3).");
        for (int a = 0; a < 5; a++) {
            for (int b = 0; b < 5; b++) {
                Asked t = Asked.sprung();
                t.bar(a, b, 1, a == b ? -1 : 0).count(1, a == b ? 0 : 1);
            }
        }
        for (int k = 1; k <= 3; k++) {
            Asked t = Asked.rod().unbar(0, 0).bar(0, 1, k, 0);
            for (int bad : Asked.outside(1, 3)) {
                t.bar(0, 1, bad, -1);
            }
            t.count(1, 1).solve(1).determinant(k);
        }
    }

    private static boolean isGood(int dx, int dy) {
        return dx == 0 || dy == 0 || dx == dy || dx == -dy;
    }

    /** A bar of stiffness 3 from node 0 to node 1, all held: node 0 at 1, -4, node 1 at 3, 1. */
    private static Asked heldBar(int from, int to) {
        return new Asked().node(0, from / 5, from % 5, 0).node(1, to / 5, to % 5, 0)
                .bar(0, 1, 3, 0).hold(0, 0, true, 1, 0).hold(0, 1, true, -4, 0)
                .hold(1, 0, true, 3, 0).hold(1, 1, true, 1, 0);
    }

    private static void goodBars() {
        terms("Let (dx, dy) be its second node's point less that of its first; it is good if dx is"
                + " 0, dy is 0, or they are equal up to the sign.");
        for (int from = 0; from < 25; from++) {
            for (int to = 0; to < 25; to++) {
                if (from != to) {
                    boolean good = isGood(to / 5 - from / 5, to % 5 - from % 5);
                    heldBar(from, to).solve(good ? 0 : -200);
                }
            }
        }
    }

    private static void signsOfABar() {
        terms("Then (c, s) are the signs (-1, 0, 1) of dx and dy.");
        for (int from = 0; from < 25; from++) {
            for (int to = 0; to < 25; to++) {
                int dx = to / 5 - from / 5;
                int dy = to % 5 - from % 5;
                if (from != to && isGood(dx, dy)) {
                    int force = 3 * (2 * Integer.signum(dx) + 5 * Integer.signum(dy));
                    heldBar(from, to).solve(0).force(0, 0, force, 1).force(3, 0, force, 1);
                }
            }
        }
    }

    private static void twoBarsMayJoinTheSameNodes() {
        terms("Two bars may join the same nodes.");
        Asked t = Asked.rod().load(0, 1, 0, 15, 0);
        for (int i = 1; i < 10; i++) {
            t.bar(i % 2, 1 - i % 2, 3, i).solve(1).determinant(3 * (i + 1)).open(0);
        }
        t.solve(1).displacement(0, 1, 0, 1, 2).force(0, 0, 3, 2).force(0, 9, 3, 2);
    }

    private static void stretchOfABar() {
        terms("The STRETCH of a bar is c * (u2 - u1) + s * (v2 - v1), u and v being the x and y"
                + " displacements of its second and first node.");
        heldBar(12, 22).solve(0).force(0, 0, 6, 1);
        heldBar(12, 2).solve(0).force(0, 0, -6, 1);
        heldBar(12, 14).solve(0).force(0, 0, 15, 1);
        heldBar(12, 10).solve(0).force(0, 0, -15, 1);
        heldBar(12, 24).solve(0).force(0, 0, 21, 1);
        heldBar(12, 20).solve(0).force(0, 0, -9, 1);
        heldBar(12, 4).solve(0).force(0, 0, 9, 1);
        heldBar(12, 0).solve(0).force(0, 0, -21, 1);
        Asked far = new Asked().node(0, 0, 0, 0).node(1, 4, 4, 0).bar(0, 1, 3, 0)
                .hold(0, 0, true, -9, 0).hold(0, 1, true, -9, 0)
                .hold(1, 0, true, 9, 0).hold(1, 1, true, 9, 0);
        far.bar(1, 0, 1, 1).solve(0).force(0, 0, 108, 1).force(0, 1, 36, 1);
    }

    private static void pullsOfABar() {
        terms("Its FORCE is k times that: it pulls its first node by FORCE * (c, s), its second one"
                + " by the opposite.");
        for (int from = 0; from < 25; from++) {
            for (int to = 0; to < 25; to++) {
                int c = Integer.signum(to / 5 - from / 5);
                int s = Integer.signum(to % 5 - from % 5);
                if (from != to && isGood(to / 5 - from / 5, to % 5 - from % 5)) {
                    int force = 3 * (2 * c + 5 * s);
                    Asked t = heldBar(from, to).solve(0);
                    t.reaction(0, 0, 0, -force * c, 1).reaction(0, 0, 1, -force * s, 1);
                    t.reaction(0, 1, 0, force * c, 1).reaction(0, 1, 1, force * s, 1);
                }
            }
        }
    }

    private static int someLoad(int c, int slot) {
        return (c * 10 + slot) * 5 - 99;
    }

    private static void casesAndLoads() {
        terms("CASES 0 .. 3: each has at every node and direction a LOAD (-99 .. 99), 0 at first.");
        Asked atFirst = Asked.sprung().solve(10);
        Asked each = Asked.sprung();
        Asked sealed = Asked.sprung().solve(10);
        for (int c = 0; c < 4; c++) {
            for (int slot = 0; slot < 10; slot++) {
                atFirst.displacement(c, slot / 2, slot % 2, 0, 1);
                each.load(c, slot / 2, slot % 2, someLoad(c, slot), 0);
                sealed.load(c, slot / 2, slot % 2, someLoad(c, slot), 0);
            }
        }
        each.solve(10);
        for (int c = 0; c < 4; c++) {
            for (int slot = 0; slot < 10; slot++) {
                each.displacement(c, slot / 2, slot % 2, someLoad(c, slot), 1);
                sealed.displacement(c, slot / 2, slot % 2, someLoad(c, slot), 1);
            }
        }
        Asked edges = Asked.sprung().solve(10);
        for (int load = -99; load <= 99; load += 33) {
            edges.load(3, 4, 1, load, 0).displacement(3, 4, 1, load, 1);
        }
        for (int bad : Asked.outside(0, 3)) {
            edges.load(bad, 4, 1, 1, -1).noDisplacement(bad, 4, 1);
        }
        for (int bad : Asked.outside(-99, 99)) {
            edges.load(3, 4, 1, bad, -1);
        }
        edges.displacement(3, 4, 1, 99, 1).displacement(2, 4, 1, 0, 1);
    }

    private static void solvedDirections() {
        terms("SOLVED: in a case, displacements of all nodes that are there, of held directions as"
                + " they are held, so that in each FREE direction the LOAD, the pulls of all bars"
                + " and -SPRING times the displacement sum up to 0.");
        // 10 - 3 * (u - 2) - 1 * u = 0
        Asked t = Asked.rod().hold(0, 0, true, 2, 0).spring(1, 0, 1, 0).load(0, 1, 0, 10, 0);
        t.load(1, 0, 0, 99, 0).load(1, 1, 1, -99, 0).spring(0, 0, 3, 0).hold(4, 0, true, 9, 0);
        t.solve(1).displacement(0, 1, 0, 4, 1).displacement(0, 0, 0, 2, 1);
        t.displacement(1, 1, 0, 3, 2).displacement(1, 0, 0, 2, 1).displacement(1, 1, 1, 0, 1);
        for (int n = 2; n < 5; n++) {
            t.noDisplacement(0, n, 0).noDisplacement(0, n, 1);
        }
        // Two bars and a spring: x and y of node 1 act on one another through the diagonal.
        Asked bent = new Asked().node(0, 0, 0, 0).node(1, 2, 2, 0).node(2, 4, 2, 0)
                .bar(0, 1, 1, 0).bar(1, 2, 2, 1).fix(0).fix(2).spring(1, 1, 3, 0)
                .load(2, 1, 0, 11, 0).load(2, 1, 1, -11, 0);
        bent.solve(2).determinant(11).displacement(2, 1, 0, 5, 1).displacement(2, 1, 1, -4, 1);
    }

    private static void matrixOfAllCases() {
        terms("The UNKNOWNS are the displacements of the free directions; the matrix of their"
                + " equations is the same in all cases.");
        Asked t = Asked.rod().bar(0, 1, 2, 1).solve(1).determinant(5).count(3, 1);
        for (int c = 0; c < 4; c++) {
            t.load(c, 1, 0, 5 * c - 99, 0).determinant(5);
        }
        t.open(0).hold(0, 0, true, 9, 0).hold(1, 1, true, -9, 0).solve(1).determinant(5);
        t.open(0).hold(1, 0, true, 0, 0).solve(0).determinant(1).count(3, 0);
    }

    private static void unknownsAreNumbered() {
        terms("The UNKNOWNS are numbered 0, 1, .. by their NUMBERING: nodes in an order, of each"
                + " first x, then y, held ones left out.");
        Asked free = Asked.sprung().solve(10);
        Asked xHeld = Asked.sprung();
        Asked yHeld = Asked.sprung();
        Asked held = Asked.sprung();
        for (int n = 0; n < 5; n++) {
            xHeld.hold(n, 0, true, n, 0);
            yHeld.hold(n, 1, true, -n, 0);
            held.fix(n);
        }
        xHeld.solve(5);
        yHeld.solve(5);
        held.solve(0);
        for (int n = 0; n < 5; n++) {
            int place = 4 - n;
            free.unknown(n, 0, 2 * place).unknown(n, 1, 2 * place + 1);
            xHeld.unknown(n, 0, -2).unknown(n, 1, place);
            yHeld.unknown(n, 0, place).unknown(n, 1, -2);
            held.unknown(n, 0, -2).unknown(n, 1, -2);
        }
        Asked some = Asked.sprung().fix(4).hold(3, 0, true, 0, 0).hold(1, 1, true, 0, 0)
                .hold(0, 0, true, 0, 0).solve(5);
        some.unknown(3, 1, 0).unknown(2, 0, 1).unknown(2, 1, 2).unknown(1, 0, 3).unknown(0, 1, 4);
    }

    private static Asked joined(int... ends) {
        Asked t = Asked.sprung();
        for (int i = 0; 2 * i < ends.length; i++) {
            t.bar(ends[2 * i], ends[2 * i + 1], 1, i);
        }
        return t.solve(10);
    }

    private static void orderBegins() {
        terms("The ORDER of the nodes is made thus: begin with the node that is there with the"
                + " fewest neighbours (different nodes joined to it by bars), the least one of"
                + " several;");
        joined().order(4, 0);
        joined(0, 1, 1, 2, 2, 0).order(4, 3);
        joined(0, 1, 0, 2, 0, 3, 1, 2, 1, 3, 2, 3, 4, 0).order(4, 4);
        joined(0, 1, 1, 2, 2, 3, 3, 4, 4, 0).order(4, 0);
        joined(0, 1, 1, 2, 2, 3, 3, 4, 4, 0, 0, 2).order(4, 1);
        // Node 4 has three bars but one neighbour only, the others have two neighbours.
        joined(4, 0, 0, 4, 4, 0, 0, 1, 1, 2, 2, 3, 3, 1).order(4, 4);
        // Nodes 0 and 1 are not there: they have no neighbours, and yet none begins with them.
        Asked few = new Asked().node(4, 0, 0, 0).node(2, 1, 0, 0).node(3, 2, 0, 0)
                .bar(2, 3, 1, 0).bar(2, 4, 1, 1).fix(2).fix(3).fix(4).solve(0);
        few.wholeOrder(4, 2, 3);
        // Bars that have been taken away make no neighbours.
        joined(0, 1, 1, 2, 2, 0).wholeOrder(2, 1, 0, 4, 3).open(0).unbar(0, 2).unbar(0, 1)
                .unbar(0, 0).solve(10).wholeOrder(4, 3, 2, 1, 0);
    }

    private static void orderGoesThrough() {
        terms("then go through the ORDER from its beginning, and for each node append its"
                + " neighbours that are not in it yet, those with fewer neighbours first, of equal"
                + " ones the least first;");
        // A star: from the leaf 0 to the middle 4, then the leaves 1, 2, 3.
        joined(4, 3, 4, 2, 4, 1, 4, 0).wholeOrder(3, 2, 1, 4, 0);
        // A chain from end to end.
        joined(3, 1, 1, 4, 4, 0, 0, 2).wholeOrder(3, 1, 4, 0, 2);
        // From 2 to 3, whose neighbours 0 and 1 have two and 4 has one.
        joined(2, 3, 3, 0, 3, 1, 3, 4, 0, 1).wholeOrder(1, 0, 4, 3, 2);
        // By width, not by depth: 0's neighbours 1 and 2 come before 1's neighbour 3.
        joined(0, 1, 0, 2, 1, 3, 2, 4, 3, 4).wholeOrder(4, 3, 2, 1, 0);
        // All neighbours count, also those in the ORDER already: 1 has three (0, 2, 3), 2 two.
        joined(0, 1, 0, 2, 1, 2, 1, 3, 3, 4).wholeOrder(2, 0, 1, 3, 4);
        // Two bars between the same nodes make one neighbour: 1 and 2 are equal.
        joined(0, 1, 1, 0, 0, 1, 0, 2, 1, 3, 2, 4).wholeOrder(4, 2, 0, 1, 3);
        joined(0, 4, 4, 1, 4, 1, 1, 4, 4, 2, 4, 3).wholeOrder(3, 2, 1, 4, 0);
    }

    private static void orderGoesOn() {
        terms("when the ORDER has been gone through and nodes are left, append of those the one"
                + " with the fewest neighbours, the least of several, and go on.");
        joined().wholeOrder(4, 3, 2, 1, 0);
        joined(0, 1).wholeOrder(1, 0, 4, 3, 2);
        joined(0, 3, 1, 4).wholeOrder(4, 1, 3, 0, 2);
        joined(0, 1, 1, 2, 2, 0, 3, 4).wholeOrder(2, 1, 0, 4, 3);
        joined(0, 1, 1, 2, 3, 4).wholeOrder(4, 3, 2, 1, 0);
        joined(0, 2, 2, 4, 1, 3).wholeOrder(3, 1, 4, 2, 0);
        joined(4, 3, 3, 2, 2, 4).wholeOrder(4, 3, 2, 1, 0);
        joined(0, 1, 0, 2, 0, 3, 1, 2, 1, 3, 2, 3).wholeOrder(3, 2, 1, 0, 4);
    }

    private static void orderIsTurnedRound() {
        terms("At last the whole ORDER is turned round.");
        Asked one = new Asked().node(3, 0, 0, 0).fix(3).solve(0).wholeOrder(3);
        one.open(0).node(1, 4, 4, 0).fix(1).solve(0).wholeOrder(3, 1);
        one.open(0).node(2, 2, 2, 0).fix(2).solve(0).wholeOrder(3, 2, 1);
        one.open(0).node(0, 0, 4, 0).fix(0).solve(0).wholeOrder(3, 2, 1, 0);
        one.open(0).node(4, 4, 0, 0).fix(4).solve(0).wholeOrder(4, 3, 2, 1, 0);
        joined(1, 2, 3, 4).wholeOrder(4, 3, 2, 1, 0);
        joined(0, 4).wholeOrder(4, 0, 3, 2, 1);
    }

    /** Every set of nodes on a line and every set of bars among them. */
    private static void everyOrderAndProfile() {
        terms("The ORDER of the nodes is made thus: (every graph)");
        for (int there = 1; there < 32; there++) {
            for (int bars = 0; bars < 1024; bars++) {
                boolean[][] joins = joinsOf(bars);
                if (staysWithin(joins, there)) {
                    checkOrderAndProfile(joins, there);
                }
            }
        }
    }

    private static boolean[][] joinsOf(int bars) {
        boolean[][] joins = new boolean[5][5];
        int bit = 0;
        for (int a = 0; a < 5; a++) {
            for (int b = a + 1; b < 5; b++) {
                joins[a][b] = (bars >> bit & 1) != 0;
                joins[b][a] = joins[a][b];
                bit++;
            }
        }
        return joins;
    }

    private static boolean staysWithin(boolean[][] joins, int there) {
        for (int n = 0; n < 5; n++) {
            if ((there >> n & 1) == 0 && joinsAt(joins, n) > 0) {
                return false;
            }
        }
        return true;
    }

    private static int joinsAt(boolean[][] joins, int n) {
        int sum = 0;
        for (boolean one : joins[n]) {
            sum += one ? 1 : 0;
        }
        return sum;
    }

    private static void checkOrderAndProfile(boolean[][] joins, int there) {
        Asked t = new Asked();
        int bars = 0;
        for (int n = 0; n < 5; n++) {
            if ((there >> n & 1) != 0) {
                t.node(n, n, 2, 0).spring(n, 0, 1, 0).spring(n, 1, 1, 0);
            }
            for (int b = n + 1; b < 5; b++) {
                if (joins[n][b]) {
                    t.bar(bars % 2 == 0 ? n : b, bars % 2 == 0 ? b : n, 1 + bars % 3, bars);
                    bars++;
                }
            }
        }
        List<Integer> order = orderOf(joins, there);
        t.solve(2 * order.size());
        t.wholeOrder(order.stream().mapToInt(n -> n).toArray());
        int profile = 0;
        for (int place = 0; place < order.size(); place++) {
            int least = 0;
            while (least < place && !joins[order.get(place)][order.get(least)]) {
                least++;
            }
            profile += 2 * (place - least);
        }
        t.count(4, profile);
    }

    private static List<Integer> orderOf(boolean[][] joins, int there) {
        List<Integer> made = new ArrayList<>();
        int through = 0;
        while (made.size() < Integer.bitCount(there)) {
            if (through == made.size()) {
                made.add(0, fewest(joins, made, there));
            }
            // Kept turned round from the beginning: what came first stands last.
            int gone = made.get(made.size() - 1 - through);
            int near = 0;
            for (int n = 0; n < 5; n++) {
                near |= joins[gone][n] ? 1 << n : 0;
            }
            for (int n = fewest(joins, made, near); n >= 0; n = fewest(joins, made, near)) {
                made.add(0, n);
            }
            through++;
        }
        return made;
    }

    private static int fewest(boolean[][] joins, List<Integer> made, int among) {
        int best = -1;
        for (int n = 4; n >= 0; n--) {
            if ((among >> n & 1) != 0 && !made.contains(n)
                    && (best < 0 || joinsAt(joins, n) <= joinsAt(joins, best))) {
                best = n;
            }
        }
        return best;
    }

    private static void profiles() {
        terms("The PROFILE is the sum over the UNKNOWNS i of i less the least UNKNOWN j, not above"
                + " i, for which the matrix has something other than 0 in row i and column j (i"
                + " itself if there is nothing).");
        // Nothing beside the diagonal; then one entry, with zeros between it and the diagonal.
        Asked.sprung().solve(10).count(4, 0);
        Asked.sprung().bar(3, 4, 1, 0).solve(10).count(4, 2);
        // A ring: its last node in the ORDER reaches over all the others.
        joined(0, 1, 1, 2, 2, 3, 3, 4, 4, 0).count(4, 14);
        // Bars to a held direction have no place in the matrix.
        Asked.sprung().bar(3, 4, 1, 0).hold(3, 0, true, 0, 0).solve(9).count(4, 0);
        // A diagonal fills all of the four directions: 0 + 1 + 2 + 3.
        Asked diagonal = new Asked().node(0, 0, 0, 0).node(1, 3, 3, 0).bar(0, 1, 2, 0);
        for (int n = 0; n < 2; n++) {
            diagonal.spring(n, 0, 1, 0).spring(n, 1, 1, 0);
        }
        diagonal.solve(4).count(4, 6);
        // Two diagonals at one node cancel each other in its x and y, unless one is stiffer.
        Asked cross = new Asked().node(0, 0, 0, 0).node(1, 1, 1, 0).node(2, 2, 0, 0).fix(0).fix(2)
                .bar(0, 1, 2, 0).bar(2, 1, 2, 1).solve(2).count(4, 0);
        cross.open(0).bar(1, 2, 1, 2).solve(2).count(4, 1);
        cross.open(0).bar(1, 0, 1, 3).solve(2).count(4, 0);
        cross.open(0).hold(1, 0, true, 0, 0).hold(1, 1, true, 0, 0).solve(0).count(4, 0);
        everyJoinedProfile();
    }

    /** Each to each: rows of all unknowns but where the middle's two pairs of diagonals cancel. */
    private static void everyJoinedProfile() {
        Asked all = Asked.allJoined(1);
        for (int n = 0; n < 5; n++) {
            all.spring(n, 0, 1, 0).spring(n, 1, 1, 0);
        }
        // ORDER 4, 3, 2, 1, 0; rows 0 .. 9 begin at 0, 1 (cancelled), 0 (six times), then at 0.
        all.solve(10).wholeOrder(4, 3, 2, 1, 0).count(4, 0 + 0 + 2 + 3 + 4 + 5 + 6 + 7 + 8 + 9);
    }

    private static void firm() {
        terms("The structure is FIRM if the equations have exactly one solution (they then have one"
                + " in every case).");
        new Asked().node(0, 0, 0, 0).fix(0).solve(0);
        new Asked().node(0, 0, 0, 0).solve(-300);
        // No load, or loads that balance: solutions, but more than one.
        Asked slides = Asked.rod().hold(0, 0, false, 0, 0).solve(-301);
        slides.load(0, 0, 0, -5, 0).load(0, 1, 0, 5, 0).solve(-301).load(1, 1, 0, 5, 0).solve(-301);
        slides.spring(1, 0, 1, 0).solve(2);
        slides.displacement(0, 0, 0, -5, 3).displacement(0, 1, 0, 0, 1);
        slides.displacement(1, 0, 0, 5, 1).displacement(1, 1, 0, 5, 1);
        slides.displacement(2, 0, 0, 0, 1).displacement(3, 1, 0, 0, 1);
        // Bars on a line hold nothing across it, however many they are.
        Asked line = new Asked().node(0, 0, 0, 0).node(1, 1, 1, 0).node(2, 4, 4, 0).fix(0).fix(2);
        line.bar(0, 1, 3, 0).bar(1, 2, 3, 1).bar(2, 1, 1, 2).solve(-301);
        line.spring(1, 1, 1, 0).solve(2).determinant(7);
        // A square needs its diagonal.
        Asked square = new Asked().node(0, 0, 0, 0).node(1, 4, 0, 0).node(2, 0, 4, 0)
                .node(3, 4, 4, 0).bar(0, 1, 1, 0).bar(2, 3, 1, 1).bar(0, 2, 1, 2).bar(1, 3, 1, 3)
                .fix(0).hold(1, 1, true, 0, 0).solve(-302);
        square.bar(1, 2, 1, 4).solve(5).determinant(1);
    }

    private static void weakUnknowns() {
        terms("Else its WEAK UNKNOWN is the least i for which the rows and columns 0 .. i of the"
                + " matrix have determinant 0.");
        for (int i = 0; i < 10; i++) {
            Asked one = Asked.sprung().spring(4 - i / 2, i % 2, 0, 0).solve(-300 - i);
            for (int later = i + 1; later < 10; later++) {
                one.spring(4 - later / 2, later % 2, 0, 0).solve(-300 - i);
            }
        }
        // A chain that slides: no row is empty, the determinant is 0 with the last unknown only.
        for (int last = 1; last < 5; last++) {
            Asked chain = new Asked().hold(0, 1, true, 0, 0).node(0, 0, 3, 0);
            for (int n = 1; n <= last; n++) {
                chain.node(n, n, 3, 0).hold(n, 1, true, 0, 0).bar(n, n - 1, 1, n - 1);
            }
            chain.solve(-300 - last).spring(last / 2, 0, 1, 0).solve(last + 1).determinant(1);
        }
        // The weak part comes first, and what follows is firm.
        Asked parts = new Asked().node(4, 4, 4, 0).node(3, 3, 4, 0).bar(3, 4, 2, 0)
                .hold(3, 1, true, 0, 0).hold(4, 1, true, 0, 0).node(0, 0, 0, 0)
                .spring(0, 0, 1, 0).spring(0, 1, 1, 0).solve(-301);
        parts.spring(4, 0, 1, 0).solve(4).unknown(4, 0, 0).unknown(3, 0, 1).unknown(0, 1, 3);
    }

    private static void fractions() {
        terms("FRACTIONS are given in lowest terms with a denominator above 0 (0 as 0 / 1).");
        // Node 1 on two bars of stiffness 3, the determinant is 6 all through.
        Asked t = Asked.rod().bar(1, 0, 3, 1).solve(1).determinant(6);
        long[][] lowest = {{0, 1}, {1, 6}, {1, 3}, {1, 2}, {2, 3}, {5, 6}, {1, 1}, {7, 6}};
        for (int load = 0; load < lowest.length; load++) {
            long top = lowest[load][0];
            long bottom = lowest[load][1];
            t.load(0, 1, 0, load, 0).displacement(0, 1, 0, top, bottom);
            t.combined(0x000000FF, 1, 0, -top, bottom);
            t.load(0, 1, 0, -load, 0).displacement(0, 1, 0, -top, bottom);
            t.combined(0x000000FF, 1, 0, top, bottom);
            t.reaction(0, 0, 0, load, 1);
            t.force(0, 0, load % 2 == 0 ? -load / 2 : -load, load % 2 == 0 ? 1 : 2);
        }
        t.load(0, 1, 0, -98, 0).displacement(0, 1, 0, -49, 3).reaction(0, 1, 1, 0, 1);
        t.force(1, 0, 0, 1).reaction(1, 0, 0, 0, 1).combined(0, 1, 0, 0, 1).displacement(0, 0, 0, 0, 1);
        // Held displacements are whole, whatever the determinant.
        t.open(0).hold(0, 1, true, -9, 0).hold(1, 1, true, 6, 0).solve(1).determinant(6);
        t.displacement(0, 0, 1, -9, 1).displacement(0, 1, 1, 6, 1).combined(2, 1, 1, 12, 1);
    }

    /** All five kinds of changes; if they are made, the structure is the same behind them. */
    private static void changesOfRod(Asked t, boolean open) {
        t.node(1, 2, 0, open ? 0 : -4).hold(0, 0, true, 0, open ? 0 : -4);
        t.spring(0, 0, 0, open ? 0 : -4).bar(0, 1, 3, open ? 1 : -4);
        t.unbar(0, open ? 1 : -4);
    }

    private static void openOrSealed() {
        terms("The structure is OPEN for changes, or SEALED after a successful solve.");
        Asked t = Asked.rod();
        for (int round = 0; round < 3; round++) {
            changesOfRod(t, true);
            t.count(2, 0).solve(1).count(2, 1);
            changesOfRod(t, false);
            t.open(0);
        }
        t.bar(0, 4, 1, 1).solve(-201).count(2, 0).unbar(1, 1);
        changesOfRod(t, true);
        t.hold(1, 0, false, 0, 0).hold(1, 1, false, 0, 0).solve(-301).count(2, 0);
        changesOfRod(t, true);
        Asked empty = new Asked().solve(-100).count(2, 0).hold(0, 0, true, 0, 0).node(0, 0, 0, 0);
        empty.hold(0, 1, true, 0, 0).solve(0).count(2, 1).node(0, 0, 0, -4);
    }

    private static void argumentsComeFirst() {
        terms("Every call first tests its arguments in their order, out of range or not there"
                + " answering REFUSED, then what is said;");
        Asked sealed = Asked.sealedRod();
        for (int bad : new int[] {-1, 5, MIN, MAX}) {
            sealed.node(bad, 3, 3, -1).node(2, bad, 3, -1).node(2, 3, bad, -1);
            sealed.node(bad, bad, bad, -1).node(bad, 2, 0, -1);
            sealed.bar(bad, 1, 1, -1).bar(0, bad, 1, -1).bar(0, 1, bad, -1).bar(bad, bad, bad, -1);
            sealed.bar(bad, bad, 1, -1).unbar(bad, -1);
            sealed.spring(bad, 0, 1, -1).spring(0, bad, 1, -1).spring(0, 0, bad, -1);
            sealed.hold(bad, 0, true, 1, -1).hold(0, bad, false, 1, -1);
            sealed.load(bad, 1, 0, 1, -1).load(0, bad, 0, 1, -1).load(0, 1, bad, 1, -1);
            sealed.order(bad, -1).unknown(bad, 0, -1).unknown(0, bad, -1).count(bad, -1);
        }
        sealed.hold(0, 0, true, 10, -1).hold(0, 0, false, -10, -1).hold(0, 0, false, MIN, -1);
        sealed.load(0, 1, 0, 100, -1).load(0, 1, 0, -100, -1).bar(0, 0, 1, -1).unbar(1, -1);
        sealed.unknown(2, 0, -1).order(2, -1);
        Asked full = Asked.allJoined(1);
        full.bar(5, 0, 1, -1).bar(0, -1, 1, -1).bar(0, 1, 4, -1).bar(0, 1, 0, -1).bar(2, 2, 1, -1);
        full.bar(0, 1, 1, -3).unbar(10, -1).node(0, 4, 5, -1).node(5, 4, 0, -1).node(0, -1, 0, -1);
        full.node(0, 4, 0, -2).open(-1);
    }
}
