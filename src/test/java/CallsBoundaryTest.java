/** The boundary cases that promises 1 to 9 name, a test for each sentence; and refused calls. */
public final class CallsBoundaryTest {
    public static void main(String[] args) {
        newObject();
        objectsAreTheirOwn();
        nodeIsPut();
        nodeStaysJoined();
        nodeIsTaken();
        barOfAnyNodes();
        barIsRefused();
        barAnswersItsNumber();
        unbarMovesDown();
        unbarWhenSealed();
        unbarAnswersWhatIsLeft();
        holdAtAnyNode();
        holdWhenSealed();
        springIsSet();
        springWhenSealed();
        loadIsSet();
        solveWhenSealed();
        solveWithoutNodes();
        solveWithABadBar();
        solveWhenNotFirm();
        solveAnswersUnknowns();
        openAgain();
        openWhenOpen();
        refusedCallsChangeNothing();
        sealedCallsChangeNothing();
        failedSolvesChangeNothing();
        Report.end();
    }

    private static void promise(int number, String words) {
        Report.sentence("Promise " + number, words);
    }

    private static void newObject() {
        promise(1, "No nodes and bars; no LOADS; OPEN.");
        Asked t = new Asked().counts(0, 0, 0, 0, 0).solve(-100).open(-1).unbar(0, -1);
        t.determinant(TrussSolver.NONE).order(0, -1).unknown(0, 0, -1);
        t.noDisplacement(0, 0, 0).noForce(0, 0).noReaction(0, 0, 0).noCombined(1, 0, 0);
        for (int n = 0; n < 5; n++) {
            new Asked().node(n, 0, 0, 0).node((n + 1) % 5, 0, 0, -2).count(0, 1).solve(-300);
        }
        Asked unloaded = new Asked();
        for (int n = 0; n < 5; n++) {
            unloaded.node(n, n, n, 0).fix(n);
        }
        unloaded.solve(0);
        for (int c = 0; c < 4; c++) {
            for (int slot = 0; slot < 10; slot++) {
                unloaded.reaction(c, slot / 2, slot % 2, 0, 1);
            }
        }
    }

    private static void objectsAreTheirOwn() {
        promise(1, "No nodes and bars; no LOADS; OPEN. (beside another object)");
        Asked first = Asked.rod().load(0, 1, 0, 9, 0).solve(1);
        Asked second = new Asked().counts(0, 0, 0, 0, 0).solve(-100);
        second.node(2, 2, 0, 0).spring(2, 0, 2, 0).spring(2, 1, 2, 0).solve(2).determinant(4);
        second.displacement(0, 2, 0, 0, 1).load(0, 2, 0, 1, 0).displacement(0, 2, 0, 1, 2);
        first.determinant(3).displacement(0, 1, 0, 3, 1).counts(2, 1, 1, 1, 0).open(0);
        second.count(2, 1).wholeOrder(2).combined(2, 2, 0, 1, 1);
    }

    private static void nodeIsPut() {
        promise(2, "Puts node n (0 .. 4) at x, y (0 .. 4), also if it is there at another point");
        for (int n = 0; n < 5; n++) {
            Asked t = new Asked().node(n, 0, 0, 0).node(n, 4, 4, 0).node(n, 4, 4, 0).count(0, 1);
            int other = (n + 2) % 5;
            t.node(other, 4, 4, -2).count(0, 1).node(other, 0, 0, 0).count(0, 2);
            t.node(n, 0, 0, -2).node(n, 0, 4, 0).node(other, 4, 4, 0).node(n, 0, 0, 0);
            t.node(other, 0, 4, 0).count(0, 2);
            t.bar(n, other, 1, 0).fix(n).hold(other, 0, true, 0, 0).solve(1).determinant(1);
            for (int bad : Asked.outside(0, 4)) {
                t.node(bad, 1, 1, -1).node(n, bad, 1, -1).node(n, 1, bad, -1);
            }
            t.count(0, 2);
        }
    }

    private static void nodeStaysJoined() {
        promise(2, "(its bars, supports and LOADS stay)");
        Asked t = Asked.rod().hold(1, 1, true, 4, 0).spring(1, 0, 3, 0).load(0, 1, 0, 12, 0)
                .load(3, 1, 1, -7, 0);
        t.solve(1).determinant(6).displacement(0, 1, 0, 2, 1).reaction(3, 1, 1, 7, 1).open(0);
        t.node(1, 4, 0, 0).counts(2, 1, 0).solve(1).determinant(6);
        t.displacement(0, 1, 0, 2, 1).displacement(0, 1, 1, 4, 1).reaction(3, 1, 1, 7, 1).open(0);
        t.node(1, 0, 4, 0).solve(1).determinant(3).displacement(0, 1, 0, 4, 1);
        t.force(0, 0, 12, 1).reaction(3, 1, 1, 19, 1).open(0);
        t.node(1, 1, 1, 0).solve(1).determinant(6).displacement(0, 1, 0, 0, 1).open(0);
        t.node(0, 2, 2, 0).solve(1).displacement(0, 1, 0, 0, 1).force(1, 0, -6, 1).open(0);
        t.node(0, 3, 2, 0).solve(-200).node(0, 3, 3, 0).solve(1).counts(2, 1, 1, 1, 0);
    }

    private static void nodeIsTaken() {
        promise(2, "SEALED; another node is there: TAKEN.");
        Asked t = Asked.sealedRod();
        t.node(0, 0, 0, -4).node(1, 0, 0, -4).node(2, 0, 0, -4).node(2, 4, 4, -4).count(0, 2);
        t.open(0).node(1, 0, 0, -2).node(2, 0, 0, -2).node(2, 2, 0, -2).count(0, 2);
        // The refused nodes are where they were, or not there.
        t.node(3, 2, 0, -2).solve(1).order(2, -1).open(0).node(2, 4, 4, 0).count(0, 3);
        // Half of the point being the same takes nothing.
        t.node(3, 4, 3, 0).node(4, 3, 4, 0).count(0, 5);
        t.node(3, 3, 4, -2).node(4, 4, 3, -2).node(0, 4, 4, -2).node(4, 0, 0, -2);
    }

    private static void barOfAnyNodes() {
        promise(3, "A bar from node a to node b with STIFFNESS k (1 .. 3); both numbers 0 .. 4,"
                + " whether the nodes are there or not.");
        for (int a = 0; a < 5; a++) {
            for (int b = 0; b < 5; b++) {
                if (a != b) {
                    Asked t = new Asked().bar(a, b, 2, 0).counts(0, 1).node(a, 1, 3, 0)
                            .bar(a, b, 1, 1).bar(b, a, 3, 2).solve(-200).node(b, 1, 0, 0);
                    t.hold(a, 0, true, 0, 0).hold(a, 1, true, 2, 0).hold(b, 0, true, 0, 0);
                    t.solve(1).determinant(6).displacement(0, b, 1, 2, 1).load(0, b, 1, -6, 0);
                    t.displacement(0, b, 1, 1, 1).force(0, 0, 2, 1).force(0, 1, 1, 1);
                    t.force(0, 2, 3, 1).reaction(0, a, 1, 6, 1);
                }
            }
        }
        Asked wrong = new Asked();
        for (int bad : Asked.outside(0, 4)) {
            wrong.bar(bad, 1, 1, -1).bar(1, bad, 1, -1);
        }
        for (int bad : Asked.outside(1, 3)) {
            wrong.bar(0, 1, bad, -1);
        }
        wrong.count(1, 0);
    }

    private static void barIsRefused() {
        promise(3, "a and b are the same: REFUSED; SEALED; 10 bars: FULL.");
        Asked t = Asked.rod();
        for (int n = 0; n < 5; n++) {
            t.bar(n, n, 1, -1);
        }
        t.count(1, 1).solve(1);
        for (int n = 0; n < 5; n++) {
            t.bar(n, n, 1, -1).bar(n, (n + 1) % 5, 1, -4);
        }
        t.count(1, 1).open(0);
        for (int i = 1; i < 10; i++) {
            t.bar(0, 1, 1, i);
        }
        t.bar(0, 1, 1, -3).bar(4, 3, 1, -3).bar(1, 1, 1, -1).count(1, 10);
        t.solve(1).determinant(12).bar(0, 1, 1, -4).bar(1, 1, 1, -1).open(0);
        t.bar(0, 1, 1, -3).unbar(0, 9).solve(1).bar(0, 1, 1, -4).open(0).bar(0, 1, 1, 9);
        t.bar(0, 1, 1, -3);
    }

    private static void barAnswersItsNumber() {
        promise(3, "Answers its number.");
        Asked t = Asked.rod().hold(1, 0, true, 1, 0);
        for (int i = 1; i < 10; i++) {
            t.bar(0, 1, 1 + i % 3, i);
        }
        t.solve(0);
        for (int i = 0; i < 10; i++) {
            t.force(0, i, i == 0 ? 3 : 1 + i % 3, 1);
        }
        t.open(0);
        for (int i = 9; i >= 0; i--) {
            t.unbar(0, i);
        }
        t.bar(2, 3, 1, 0).bar(0, 0, 1, -1).bar(3, 2, 1, 1).unbar(0, 1).bar(2, 4, 1, 1);
    }

    /** Ten bars of which no two neighbours are alike, all nodes held so that forces tell them. */
    private static Asked tenBars() {
        Asked t = new Asked().node(0, 0, 0, 0).node(1, 1, 0, 0).node(2, 3, 0, 0);
        t.fix(0).hold(1, 0, true, 1, 0).hold(1, 1, true, 0, 0).hold(2, 0, true, 8, 0)
                .hold(2, 1, true, 0, 0);
        for (int i = 0; i < 10; i++) {
            t.bar(i % 3, (i + 1) % 3, 1 + i / 4, i);
        }
        return t;
    }

    private static int forceOfTen(int i) {
        int[] stretches = {1, 7, 8};
        return stretches[i % 3] * (1 + i / 4);
    }

    private static void unbarMovesDown() {
        promise(4, "Takes bar i away, later ones move down by one.");
        for (int gone = 0; gone < 10; gone++) {
            Asked t = tenBars().unbar(gone, 9).count(1, 9).unbar(9, -1).solve(0);
            for (int i = 0; i < 9; i++) {
                t.force(0, i, forceOfTen(i < gone ? i : i + 1), 1);
            }
            t.noForce(0, 9).open(0).bar(0, 1, 2, 9).solve(0).force(0, 9, 2, 1).count(1, 10);
        }
        Asked all = tenBars();
        for (int left = 9; left >= 0; left--) {
            all.unbar(left / 2, left).count(1, left);
        }
        all.unbar(0, -1).solve(0).noForce(0, 0);
        for (int bad : Asked.outside(0, 9)) {
            tenBars().unbar(bad, -1).count(1, 10);
        }
        Asked.rod().unbar(1, -1).unbar(-1, -1).count(1, 1);
    }

    private static void unbarWhenSealed() {
        promise(4, "SEALED.");
        Asked t = tenBars().solve(0);
        for (int i = 0; i < 10; i++) {
            t.unbar(i, -4).force(0, i, forceOfTen(i), 1);
        }
        t.unbar(10, -1).unbar(-1, -1).count(1, 10).open(0).unbar(9, 9).solve(0).unbar(9, -1);
        t.unbar(8, -4).count(1, 9);
    }

    private static void unbarAnswersWhatIsLeft() {
        promise(4, "Answers how many are left.");
        Asked t = tenBars();
        for (int left = 9; left >= 0; left--) {
            t.unbar(0, left);
        }
        t.unbar(0, -1).bar(0, 1, 1, 0).unbar(0, 0).unbar(0, -1);
        Asked fromBehind = tenBars();
        for (int left = 9; left >= 0; left--) {
            fromBehind.unbar(left, left).unbar(left, -1);
        }
    }

    private static void holdAtAnyNode() {
        promise(5, "Holds node n's (0 .. 4, there or not) direction (0, 1) at h (-9 .. 9), or frees"
                + " it (on false; h must be in range too).");
        for (int slot = 0; slot < 10; slot++) {
            int n = slot / 2;
            int d = slot % 2;
            Asked t = new Asked().hold(n, d, true, -9, 0).count(0, 0).node(n, 4, 4, 0);
            t.spring(n, 1 - d, 1, 0).solve(1).unknown(n, d, -2).displacement(0, n, d, -9, 1);
            t.open(0).hold(n, d, true, 9, 0).solve(1).displacement(2, n, d, 9, 1).open(0);
            for (int bad : Asked.outside(-9, 9)) {
                t.hold(n, d, true, bad, -1).hold(n, d, false, bad, -1);
            }
            for (int bad : Asked.outside(0, 4)) {
                t.hold(bad, d, true, 0, -1).hold(bad, d, false, 0, -1);
            }
            for (int bad : Asked.outside(0, 1)) {
                t.hold(n, bad, true, 0, -1).hold(n, bad, false, 0, -1);
            }
            t.solve(1).displacement(2, n, d, 9, 1).reaction(0, n, d, 0, 1).open(0);
            t.hold(n, d, false, 9, 0).solve(-300 - d).hold(n, d, false, -9, 0).solve(-300 - d);
            t.spring(n, d, 2, 0).solve(2).unknown(n, d, d).displacement(0, n, d, 0, 1);
            t.noReaction(0, n, d).open(0).hold(n, d, true, 0, 0).solve(1).displacement(0, n, d, 0, 1);
        }
        // Freed before the node is there, and freed though it never was held.
        Asked t = new Asked().hold(3, 0, true, 1, 0).hold(3, 0, false, 1, 0)
                .hold(3, 1, false, 5, 0).node(3, 0, 0, 0).solve(-300);
        t.spring(3, 0, 1, 0).spring(3, 1, 1, 0).solve(2).displacement(0, 3, 1, 0, 1);
    }

    private static void holdWhenSealed() {
        promise(5, "SEALED. DONE.");
        Asked t = Asked.sealedRod();
        for (int n = 0; n < 5; n++) {
            t.hold(n, 0, true, 1, -4).hold(n, 1, false, 0, -4).hold(n, 0, false, 10, -1);
        }
        t.displacement(0, 0, 0, 0, 1).unknown(1, 0, 0).unknown(1, 1, -2).open(0).solve(1);
        t.displacement(0, 0, 0, 0, 1).open(0).hold(0, 0, true, 1, 0).solve(1);
        t.displacement(0, 0, 0, 1, 1).displacement(0, 1, 0, 1, 1);
    }

    private static void springIsSet() {
        promise(6, "Sets node n's (0 .. 4) SPRING in the direction to k (0 .. 3).");
        for (int slot = 0; slot < 10; slot++) {
            int n = slot / 2;
            int d = slot % 2;
            Asked t = new Asked().spring(n, d, 3, 0).spring(n, d, 2, 0).count(0, 0);
            t.node(n, 0, 4, 0).hold(n, 1 - d, true, 0, 0).solve(1).determinant(2).open(0);
            t.spring(n, d, 3, 0).solve(1).determinant(3).open(0);
            for (int bad : Asked.outside(0, 3)) {
                t.spring(n, d, bad, -1);
            }
            for (int bad : Asked.outside(0, 4)) {
                t.spring(bad, d, 1, -1);
            }
            for (int bad : Asked.outside(0, 1)) {
                t.spring(n, bad, 1, -1);
            }
            t.solve(1).determinant(3).reaction(0, n, 1 - d, 0, 1).open(0);
            t.spring(n, d, 0, 0).solve(-300).spring(n, d, 1, 0).solve(1).determinant(1);
        }
    }

    private static void springWhenSealed() {
        promise(6, "SEALED. DONE.");
        Asked t = Asked.sealedRod();
        for (int n = 0; n < 5; n++) {
            t.spring(n, 0, 3, -4).spring(n, 1, 0, -4).spring(n, 0, 4, -1).spring(n, 2, 1, -1);
        }
        t.determinant(3).open(0).solve(1).determinant(3).open(0).spring(1, 0, 3, 0).solve(1);
        t.determinant(6);
    }

    private static void loadIsSet() {
        promise(7, "Sets a LOAD, load -99 .. 99, at node n (0 .. 4) in case c (0 .. 3); allowed"
                + " when SEALED too.");
        for (int c = 0; c < 4; c++) {
            for (int slot = 0; slot < 10; slot++) {
                int n = slot / 2;
                int d = slot % 2;
                Asked t = new Asked().load(c, n, d, 99, 0).load(c, n, d, -99, 0).count(0, 0);
                t.node(n, 1, 1, 0).spring(n, 0, 1, 0).spring(n, 1, 1, 0).solve(2);
                t.displacement(c, n, d, -99, 1).displacement(c, n, 1 - d, 0, 1);
                t.displacement((c + 1) % 4, n, d, 0, 1);
                t.load(c, n, d, 99, 0).displacement(c, n, d, 99, 1).count(2, 1);
                t.load(c, n, d, 0, 0).displacement(c, n, d, 0, 1);
                t.load(c, n, d, 1, 0).load(c, (n + 1) % 5, d, 50, 0);
                t.displacement(c, n, d, 1, 1).open(0).load(c, n, d, 2, 0).solve(2);
                t.displacement(c, n, d, 2, 1).combined(1 << 8 * c, n, d, 2, 1);
            }
        }
        for (boolean sealed : new boolean[] {false, true}) {
            Asked t = sealed ? Asked.sealedRod() : Asked.rod();
            for (int bad : Asked.outside(0, 3)) {
                t.load(bad, 1, 0, 7, -1);
            }
            for (int bad : Asked.outside(0, 4)) {
                t.load(1, bad, 0, 7, -1);
            }
            for (int bad : Asked.outside(0, 1)) {
                t.load(1, 1, bad, 7, -1);
            }
            for (int bad : Asked.outside(-99, 99)) {
                t.load(1, 1, 0, bad, -1);
            }
            t.solve(sealed ? -4 : 1);
            for (int c = 0; c < 4; c++) {
                t.displacement(c, 1, 0, 0, 1).reaction(c, 0, 0, 0, 1).reaction(c, 1, 1, 0, 1);
            }
        }
    }

    private static void solveWhenSealed() {
        promise(8, "SEALED already: SEALED.");
        Asked t = Asked.rod().load(0, 1, 0, 5, 0).solve(1).solve(-4).solve(-4).count(2, 1);
        t.displacement(0, 1, 0, 5, 3).open(0).solve(1).solve(-4).displacement(0, 1, 0, 5, 3);
        new Asked().node(0, 0, 0, 0).fix(0).solve(0).solve(-4).count(2, 1);
    }

    private static void solveWithoutNodes() {
        promise(8, "No node is there: -100.");
        Asked t = new Asked().solve(-100).solve(-100).fix(0).load(0, 0, 0, 1, 0).solve(-100);
        t.bar(0, 1, 1, 0).spring(0, 0, 1, 0).solve(-100).counts(0, 1, 0, 0, 0).open(-1);
        t.node(5, 0, 0, -1).solve(-100).node(0, 0, 0, 0).solve(-200).unbar(0, 0).solve(0);
    }

    private static void solveWithABadBar() {
        promise(8, "In order of the bars, the first one of which a node isn't there, or that is not"
                + " good: -200 - its number.");
        for (int bad = 0; bad < 10; bad++) {
            firstBadBar(bad, 3, 0);
            firstBadBar(bad, 0, 3);
            firstBadBar(bad, 2, 0);
            firstBadBar(bad, 0, 2);
        }
        // Neither node is there; the first of several bad ones, of both kinds.
        new Asked().bar(3, 4, 1, 0).node(0, 0, 0, 0).solve(-200);
        Asked t = Asked.rod().node(2, 1, 2, 0).bar(0, 2, 1, 1).bar(0, 3, 1, 2).solve(-201);
        t.unbar(1, 2).solve(-201).unbar(1, 1).bar(3, 0, 1, 1).bar(2, 0, 1, 2).solve(-201);
        // A bad bar comes before a structure that is not firm.
        t.unbar(1, 2).solve(-201).unbar(1, 1).solve(-301).fix(2).solve(1);
    }

    /** Bars 0 .. 9 of nodes 0 and 1, but bar bad joins a and b; node 3 is not there, 2 off. */
    private static void firstBadBar(int bad, int a, int b) {
        Asked t = new Asked().node(0, 0, 0, 0).node(1, 4, 4, 0).node(2, 3, 4, 0).fix(0).fix(1)
                .fix(2);
        for (int i = 0; i < 10; i++) {
            t.bar(i == bad ? a : 0, i == bad ? b : 1, 1, i);
        }
        t.solve(-200 - bad).count(2, 0).unbar(bad, 9).solve(0);
    }

    private static void solveWhenNotFirm() {
        promise(8, "Not FIRM: -300 - the WEAK UNKNOWN.");
        for (int i = 0; i < 10; i++) {
            Asked t = Asked.sprung().spring(4 - i / 2, i % 2, 0, 0).solve(-300 - i);
            t.counts(5, 0, 0, 0, 0).open(-1).determinant(TrussSolver.NONE).order(0, -1);
            t.unknown(0, 0, -1).noDisplacement(0, 0, 0).solve(-300 - i);
            t.hold(4 - i / 2, i % 2, true, 0, 0).solve(9);
        }
    }

    private static void solveAnswersUnknowns() {
        promise(8, "Else SEALED: the number of UNKNOWNS.");
        Asked t = Asked.sprung().solve(10).counts(5, 0, 1, 10, 0);
        for (int slot = 0; slot < 10; slot++) {
            t.open(0).hold(slot / 2, slot % 2, true, 1, 0).solve(9 - slot);
            t.count(2, 1).count(3, 9 - slot);
        }
        new Asked().node(4, 4, 4, 0).fix(4).hold(0, 0, true, 0, 0).spring(1, 1, 1, 0).solve(0);
    }

    private static void openAgain() {
        promise(9, "The structure is OPEN again, all else stays.");
        Asked t = described().solve(6).open(0).counts(5, 10, 0, 0, 0);
        t.node(1, 0, 0, -2).bar(0, 1, 1, -3).solve(6).answersLike(described().solve(6));
        Asked again = described();
        for (int round = 0; round < 5; round++) {
            again.solve(6).open(0);
        }
        again.solve(6).answersLike(described().solve(6));
        // What is changed in between counts with the next solve.
        Asked rod = Asked.sealedRod().open(0).bar(0, 1, 3, 1).solve(1).determinant(6).open(0);
        rod.unbar(0, 1).unbar(0, 0).solve(-300).open(-1).bar(1, 0, 1, 0).solve(1).determinant(1);
    }

    private static void openWhenOpen() {
        promise(9, "It is OPEN: REFUSED. DONE.");
        Asked t = new Asked().open(-1).open(-1).node(0, 0, 0, 0).open(-1).solve(-300).open(-1);
        t.fix(0).bar(0, 1, 1, 0).solve(-200).open(-1).unbar(0, 0).solve(0).solve(-4);
        t.load(0, 0, 0, 1, 0).open(0).open(-1).count(2, 0).solve(0).open(0).open(-1);
    }

    /** All five nodes, ten bars, some directions held, some sprung, loads in all cases. */
    private static Asked described() {
        Asked t = Asked.allJoined(2);
        t.hold(0, 0, true, 2, 0).hold(0, 1, true, -3, 0).hold(1, 1, true, 9, 0)
                .hold(4, 0, true, -1, 0);
        for (int n = 0; n < 5; n++) {
            t.spring(n, n % 2, n % 4, 0);
        }
        for (int c = 0; c < 4; c++) {
            t.load(c, c, 0, 30 * c - 45, 0).load(c, c + 1, 1, 99 - 60 * c, 0);
        }
        return t;
    }

    private interface Calls {
        void of(Asked t);
    }

    /** The structure with these calls in it is the same as without them. */
    private static void changeNothing(boolean sealed, Calls calls) {
        Asked with = described().unbar(9, 9).unbar(4, 8);
        Asked without = described().unbar(9, 9).unbar(4, 8).solve(6);
        if (sealed) {
            with.solve(6);
        }
        calls.of(with);
        if (!sealed) {
            with.solve(6);
        }
        with.answersLike(without);
    }

    private static void refusedCallsChangeNothing() {
        Report.sentence("Terms", "a refused call changes nothing.");
        for (boolean sealed : new boolean[] {false, true}) {
            changeNothing(sealed, CallsBoundaryTest::refuseNodes);
            changeNothing(sealed, CallsBoundaryTest::refuseBars);
            changeNothing(sealed, CallsBoundaryTest::refuseHolds);
            changeNothing(sealed, CallsBoundaryTest::refuseSprings);
            changeNothing(sealed, CallsBoundaryTest::refuseLoads);
        }
        changeNothing(false, t -> {
            t.node(0, 4, 0, -2).node(1, 0, 4, -2).node(2, 4, 4, -2).node(3, 2, 2, -2);
            t.node(4, 0, 0, -2).open(-1).open(-1);
        });
        Asked full = described().bar(0, 1, 1, -3).bar(3, 4, 3, -3).bar(2, 2, 1, -1).count(1, 10);
        full.solve(6).answersLike(described().solve(6));
        // A node that was refused is not there, whatever it was refused for.
        Asked few = Asked.rod().node(2, 0, 0, -2).node(3, 5, 0, -1).solve(1).node(4, 4, 4, -4);
        few.open(0).count(0, 2).bar(0, 2, 1, 1).solve(-201).unbar(1, 1).solve(1).wholeOrder(1, 0);
    }

    private static void refuseNodes(Asked t) {
        for (int bad : Asked.outside(0, 4)) {
            t.node(bad, 1, 1, -1).node(3, bad, 1, -1).node(3, 1, bad, -1);
        }
    }

    private static void refuseBars(Asked t) {
        for (int bad : Asked.outside(0, 4)) {
            t.bar(bad, 1, 1, -1).bar(1, bad, 1, -1);
        }
        for (int bad : Asked.outside(1, 3)) {
            t.bar(0, 1, bad, -1);
        }
        for (int n = 0; n < 5; n++) {
            t.bar(n, n, 1, -1);
        }
        for (int bad : Asked.outside(0, 7)) {
            t.unbar(bad, -1);
        }
    }

    private static void refuseHolds(Asked t) {
        for (int bad : Asked.outside(0, 4)) {
            t.hold(bad, 0, true, 5, -1).hold(bad, 0, false, 5, -1);
        }
        for (int bad : Asked.outside(0, 1)) {
            t.hold(0, bad, false, 5, -1).hold(3, bad, true, 5, -1);
        }
        for (int bad : Asked.outside(-9, 9)) {
            t.hold(0, 0, false, bad, -1).hold(3, 0, true, bad, -1).hold(0, 1, true, bad, -1);
        }
    }

    private static void refuseSprings(Asked t) {
        for (int bad : Asked.outside(0, 4)) {
            t.spring(bad, 0, 1, -1).spring(bad, 1, 0, -1);
        }
        for (int bad : Asked.outside(0, 1)) {
            t.spring(2, bad, 3, -1);
        }
        for (int bad : Asked.outside(0, 3)) {
            t.spring(2, 0, bad, -1).spring(3, 1, bad, -1);
        }
    }

    private static void refuseLoads(Asked t) {
        for (int bad : Asked.outside(0, 3)) {
            t.load(bad, 3, 0, 77, -1);
        }
        for (int bad : Asked.outside(0, 4)) {
            t.load(0, bad, 0, 77, -1);
        }
        for (int bad : Asked.outside(0, 1)) {
            t.load(0, 3, bad, 77, -1);
        }
        for (int bad : Asked.outside(-99, 99)) {
            t.load(0, 3, 0, bad, -1).load(1, 1, 0, bad, -1);
        }
    }

    private static void sealedCallsChangeNothing() {
        Report.sentence("Terms", "a refused call changes nothing. (SEALED)");
        changeNothing(true, CallsBoundaryTest::changeWhenSealed);
        // Nor do they come into force with the next solve.
        changeNothing(true, t -> {
            changeWhenSealed(t);
            t.open(0).solve(6);
        });
    }

    private static void changeWhenSealed(Asked t) {
        for (int n = 0; n < 5; n++) {
            t.node(n, 1, 3, -4).node(n, n, 2, -4).bar(n, (n + 1) % 5, 1, -4).unbar(n, -4);
            for (int direction = 0; direction < 2; direction++) {
                t.hold(n, direction, true, 7, -4).hold(n, direction, false, 0, -4);
                t.spring(n, direction, 0, -4).spring(n, direction, 3, -4);
            }
        }
        t.solve(-4);
    }

    private static void failedSolvesChangeNothing() {
        Report.sentence("Terms", "a refused call changes nothing. (solve)");
        Asked notGood = described().node(4, 2, 1, 0).solve(-203).solve(-203).node(4, 2, 2, 0);
        notGood.solve(6).answersLike(described().solve(6));
        Asked weak = Asked.rod().load(0, 1, 0, 6, 0).hold(1, 1, false, 0, 0).solve(-301);
        weak.counts(2, 1, 0, 0, 0).hold(1, 1, true, 0, 0).solve(1).answersLike(
                Asked.rod().load(0, 1, 0, 6, 0).solve(1));
        // Nor does one that fails after a successful one leave anything of that to be asked.
        Asked after = Asked.sealedRod().open(0).hold(1, 1, false, 0, 0).solve(-301);
        after.counts(2, 1, 0, 0, 0).determinant(TrussSolver.NONE).order(0, -1).unknown(1, 0, -1);
        after.noDisplacement(0, 0, 0).noForce(0, 0).noReaction(0, 0, 0).noCombined(0, 0, 0);
    }
}
