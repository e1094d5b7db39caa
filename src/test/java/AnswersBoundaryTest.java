/** The boundary cases that promises 10 to 17 name, a test for each sentence. */
public final class AnswersBoundaryTest {
    private static final long NONE = TrussSolver.NONE;

    public static void main(String[] args) {
        noneIsNoNumber();
        displacementParts();
        displacementFollowsLoads();
        displacementIsNone();
        forceIsTheSame();
        forceIsNone();
        reactionAtHeldDirections();
        reactionIsNone();
        reactionOfFreeDirections();
        combinedSums();
        combinedFactors();
        combinedOfGreatNumbers();
        answersOfAllJoined();
        combinedIsNone();
        determinants();
        determinantOfGreatNumbers();
        determinantIsNone();
        orderPlaces();
        unknownNumbers();
        unknownIsRefused();
        countOfNodes();
        countOfBars();
        countWhenSealed();
        countOfUnknownsAndProfile();
        countIsRefused();
        wrongArgumentsInEveryState();
        Report.end();
    }

    private static void promise(int number, String words) {
        Report.sentence("Promise " + number, words);
    }

    /** Node 0 held, node 1 on two bars of stiffness 3 (determinant 6), loads 4 and -9 on it. */
    private static Asked loaded() {
        return Asked.rod().bar(1, 0, 3, 1).load(0, 1, 0, 4, 0).load(3, 1, 0, -9, 0);
    }

    private static void noneIsNoNumber() {
        Report.sentence("Terms", "`NONE = -4000000000000000000L`: The answer where there is no"
                + " number.");
        Report.due("NONE", NONE, -4000000000000000000L);
        new Asked().noDisplacement(0, 0, 0).noForce(0, 0).noReaction(0, 0, 0).noCombined(1, 0, 0)
                .determinant(-4000000000000000000L);
    }

    private static void displacementParts() {
        promise(10, "The numerator (part 0) or denominator (1) of node n's displacement in the"
                + " direction in case c");
        Asked t = loaded().hold(0, 1, true, -9, 0).hold(1, 1, true, 9, 0).solve(1);
        t.displacementPart(0, 1, 0, 0, 2).displacementPart(0, 1, 0, 1, 3);
        t.displacementPart(3, 1, 0, 0, -3).displacementPart(3, 1, 0, 1, 2);
        t.displacementPart(1, 1, 0, 0, 0).displacementPart(1, 1, 0, 1, 1);
        for (int c = 0; c < 4; c++) {
            t.displacement(c, 0, 0, 0, 1).displacement(c, 0, 1, -9, 1).displacement(c, 1, 1, 9, 1);
        }
    }

    private static void displacementFollowsLoads() {
        promise(10, "(LOADS as they are now)");
        Asked t = loaded().solve(1).displacement(0, 1, 0, 2, 3).load(0, 1, 0, 99, 0);
        t.displacement(0, 1, 0, 33, 2).load(0, 1, 0, -99, 0).displacement(0, 1, 0, -33, 2);
        t.load(0, 1, 0, 100, -1).displacement(0, 1, 0, -33, 2).load(1, 1, 0, 6, 0);
        t.displacement(0, 1, 0, -33, 2).displacement(1, 1, 0, 1, 1).load(0, 1, 0, 0, 0);
        t.displacement(0, 1, 0, 0, 1).load(0, 0, 0, 50, 0).load(0, 1, 1, 50, 0);
        t.load(0, 4, 0, 50, 0).displacement(0, 1, 0, 0, 1).open(0).load(0, 1, 0, 3, 0);
        t.solve(1).displacement(0, 1, 0, 1, 2);
    }

    private static void displacementIsNone() {
        promise(10, "Not SEALED, or anything out of range or not there: NONE.");
        Asked t = loaded().hold(3, 0, true, 1, 0).noDisplacement(0, 1, 0).noDisplacement(0, 0, 0);
        t.solve(1).displacement(0, 1, 0, 2, 3);
        for (int bad : Asked.outside(0, 3)) {
            t.noDisplacement(bad, 1, 0).noDisplacement(bad, 0, 0);
        }
        for (int bad : Asked.outside(0, 4)) {
            t.noDisplacement(0, bad, 0).noDisplacement(0, bad, 1);
        }
        for (int bad : Asked.outside(0, 1)) {
            t.noDisplacement(0, 1, bad).noDisplacement(0, 0, bad);
            t.displacementPart(0, 1, 0, bad, NONE).displacementPart(0, 0, 0, bad, NONE);
        }
        for (int n = 2; n < 5; n++) {
            t.noDisplacement(0, n, 0).noDisplacement(0, n, 1);
        }
        t.displacement(0, 1, 0, 2, 3).open(0).noDisplacement(0, 1, 0).noDisplacement(0, 0, 0);
        t.hold(1, 1, false, 0, 0).solve(-301).noDisplacement(0, 1, 0).noDisplacement(0, 0, 0);
    }

    private static void forceIsTheSame() {
        promise(11, "The same of bar i's FORCE.");
        Asked t = loaded().bar(0, 1, 1, 2).solve(1).determinant(7);
        t.forcePart(0, 0, 0, 12).forcePart(0, 0, 1, 7).forcePart(3, 2, 0, -9).forcePart(3, 2, 1, 7);
        t.force(0, 1, 12, 7).force(0, 2, 4, 7).force(1, 0, 0, 1).force(2, 2, 0, 1);
        t.load(0, 1, 0, -7, 0).force(0, 0, -3, 1).force(0, 2, -1, 1).load(0, 1, 0, 99, 0);
        t.force(0, 1, 297, 7).load(0, 1, 0, 0, 0).force(0, 1, 0, 1).force(3, 0, -27, 7);
        // The tenth bar, and the farthest stretch.
        Asked ten = Asked.rod().hold(0, 0, true, 9, 0).hold(1, 0, true, -9, 0);
        for (int i = 1; i < 10; i++) {
            ten.bar(i % 2, 1 - i % 2, 1 + i % 3, i);
        }
        ten.solve(0).force(0, 0, -54, 1).force(3, 9, -18, 1).force(0, 8, -54, 1);
    }

    private static void forceIsNone() {
        promise(11, "The same of bar i's FORCE. (Not SEALED, or anything out of range or not there:"
                + " NONE.)");
        Asked t = loaded().noForce(0, 0).noForce(0, 1).solve(1).force(0, 0, 2, 1);
        for (int bad : Asked.outside(0, 3)) {
            t.noForce(bad, 0).noForce(bad, 1);
        }
        for (int bad : Asked.outside(0, 1)) {
            t.noForce(0, bad).forcePart(0, 0, bad, NONE).forcePart(3, 1, bad, NONE);
        }
        for (int i = 2; i <= 10; i++) {
            t.noForce(0, i);
        }
        t.open(0).noForce(0, 0).unbar(0, 1).solve(1).force(0, 0, 4, 1).noForce(0, 1).open(0);
        t.unbar(0, 0).solve(-300).noForce(0, 0).spring(1, 0, 1, 0).solve(1).noForce(0, 0);
        for (int i = 0; i < 10; i++) {
            Asked.sprung().solve(10).noForce(0, i);
        }
    }

    private static void reactionAtHeldDirections() {
        promise(12, "The same of the REACTION at node n in a held direction: what must be added"
                + " there so that LOAD, pulls and -SPRING times displacement sum up to 0.");
        // Node 0: load 5, spring 3 at 2; the bar pulls by 3 * (u - 2), where 4 - 3 * (u - 2) = u.
        Asked t = Asked.rod().hold(0, 0, true, 2, 0).spring(0, 0, 3, 0).spring(1, 0, 1, 0)
                .load(0, 0, 0, 5, 0).load(0, 1, 0, 4, 0).solve(1);
        t.displacement(0, 1, 0, 5, 2).reaction(0, 0, 0, -1, 2).reaction(1, 0, 0, 15, 2);
        t.reactionPart(0, 0, 0, 0, -1).reactionPart(0, 0, 0, 1, 2).reaction(0, 0, 1, 0, 1);
        t.load(0, 0, 1, -99, 0).reaction(0, 0, 1, 99, 1).load(2, 1, 1, 99, 0);
        t.reaction(2, 1, 1, -99, 1).reaction(3, 1, 1, 0, 1).reaction(0, 1, 1, 0, 1);
        // A node without bars; the greatest load and spring against the farthest hold.
        Asked alone = new Asked().node(4, 4, 4, 0).hold(4, 0, true, -9, 0).hold(4, 1, true, 9, 0)
                .spring(4, 0, 3, 0).load(3, 4, 0, 99, 0).load(3, 4, 1, -99, 0).solve(0);
        alone.reaction(3, 4, 0, -126, 1).reaction(3, 4, 1, 99, 1).reaction(0, 4, 0, -27, 1);
        // Both ends of every bar between held nodes.
        Asked held = Asked.rod().hold(0, 0, true, -9, 0).hold(1, 0, true, 9, 0).bar(1, 0, 2, 1);
        held.solve(0).reaction(0, 0, 0, -90, 1).reaction(0, 1, 0, 90, 1).reaction(0, 1, 1, 0, 1);
    }

    private static void reactionIsNone() {
        promise(12, "The same of the REACTION (Not SEALED, or anything out of range or not there:"
                + " NONE.)");
        Asked t = loaded().hold(3, 0, true, 1, 0).load(0, 3, 0, 5, 0).noReaction(0, 0, 0);
        t.solve(1).reaction(0, 0, 0, -4, 1);
        for (int bad : Asked.outside(0, 3)) {
            t.noReaction(bad, 0, 0);
        }
        for (int bad : Asked.outside(0, 4)) {
            t.noReaction(0, bad, 0).noReaction(0, bad, 1);
        }
        for (int bad : Asked.outside(0, 1)) {
            t.noReaction(0, 0, bad).noReaction(0, 1, bad).reactionPart(0, 0, 0, bad, NONE);
        }
        for (int n = 2; n < 5; n++) {
            t.noReaction(0, n, 0).noReaction(0, n, 1);
        }
        t.reaction(0, 0, 0, -4, 1).open(0).noReaction(0, 0, 0).hold(1, 1, false, 0, 0);
        t.solve(-301).noReaction(0, 0, 0).node(3, 3, 3, 0).fix(3).hold(1, 1, true, 0, 0).solve(1);
        t.reaction(0, 3, 0, -5, 1);
    }

    private static void reactionOfFreeDirections() {
        promise(12, "Not held: NONE.");
        Asked t = Asked.sprung().bar(0, 1, 1, 0).solve(10);
        for (int c = 0; c < 4; c++) {
            for (int slot = 0; slot < 10; slot++) {
                t.noReaction(c, slot / 2, slot % 2);
            }
        }
        t.open(0).hold(2, 1, true, 3, 0).solve(9).reaction(0, 2, 1, 3, 1).noReaction(0, 2, 0);
        t.open(0).hold(2, 1, false, 3, 0).solve(10).noReaction(0, 2, 1);
    }

    private static void combinedSums() {
        promise(13, "LOADS and the displacements of held directions both being the sum over the"
                + " cases c of factor c times the case's.");
        // Both ends of the rod: node 0 goes by h times the sum of the factors.
        Asked t = Asked.rod().hold(0, 0, true, 5, 0).load(0, 1, 0, 3, 0).load(1, 1, 0, 30, 0)
                .load(2, 1, 0, 60, 0).load(3, 1, 0, 90, 0).solve(1);
        t.combined(0x01010101, 0, 0, 20, 1).combined(0x01010101, 1, 0, 81, 1);
        t.combined(0, 0, 0, 0, 1).combined(0, 1, 0, 0, 1).combined(1, 1, 0, 6, 1);
        // Factors that sum up to 0 leave held directions where they are, the loads act.
        t.combined(0x0000FF01, 0, 0, 0, 1).combined(0x0000FF01, 1, 0, -9, 1);
        t.combined(0xFF010000, 0, 0, 0, 1).combined(0xFF010000, 1, 0, -10, 1);
        t.combined(0x04030201, 0, 0, 50, 1).combined(0x04030201, 1, 0, 251, 1);
        t.load(3, 1, 0, -90, 0).combined(0x04030201, 1, 0, 11, 1).load(3, 1, 0, 1, 0);
        t.combined(0x01000000, 1, 0, 16, 3).combined(0x03000000, 1, 0, 16, 1);
        // A case alone is the displacement of that case.
        for (int c = 0; c < 4; c++) {
            t.load(c, 1, 0, 3 * c - 6, 0).displacement(c, 1, 0, c + 3, 1);
            t.combined(1 << 8 * c, 1, 0, c + 3, 1).combined(255 << 8 * c, 1, 0, -c - 3, 1);
        }
    }

    private static void combinedFactors() {
        promise(13, "The factors are the four bytes of f (-128 .. 127 each), the lowest that of"
                + " case 0.");
        Asked t = Asked.sprung();
        for (int c = 0; c < 4; c++) {
            t.load(c, 0, 0, 1, 0).load(c, c + 1, 0, 1, 0);
        }
        t.solve(10);
        int[] factors = {0, 1, 2, 126, 127, -128, -127, -2, -1};
        for (int c = 0; c < 4; c++) {
            for (int factor : factors) {
                int f = (factor & 255) << 8 * c;
                t.combinedPart(f, 0, 0, 0, factor);
                for (int other = 0; other < 4; other++) {
                    t.combinedPart(f, other + 1, 0, 0, other == c ? factor : 0);
                }
            }
        }
        fourFactors(t, 0x7F7F7F7F, 127, 127, 127, 127);
        fourFactors(t, 0x80808080, -128, -128, -128, -128);
        fourFactors(t, 0x7F80FF01, 1, -1, -128, 127);
        fourFactors(t, 0x80000080, -128, 0, 0, -128);
        fourFactors(t, Integer.MIN_VALUE, 0, 0, 0, -128);
        fourFactors(t, Integer.MAX_VALUE, -1, -1, -1, 127);
        fourFactors(t, -1, -1, -1, -1, -1);
        fourFactors(t, 255, -1, 0, 0, 0);
        fourFactors(t, 256, 0, 1, 0, 0);
        fourFactors(t, 128, -128, 0, 0, 0);
    }

    /** Node c + 1 shows the factor of case c, node 0 the sum of all. */
    private static void fourFactors(Asked t, int f, int... factors) {
        int sum = 0;
        for (int c = 0; c < 4; c++) {
            t.combined(f, c + 1, 0, factors[c], 1);
            sum += factors[c];
        }
        t.combined(f, 0, 0, sum, 1);
    }

    private static void combinedOfGreatNumbers() {
        promise(13, "LOADS and the displacements of held directions (the greatest)");
        Asked springs = Asked.sprung();
        Asked rod = Asked.rod().hold(0, 0, true, -9, 0).hold(1, 1, true, 9, 0);
        for (int c = 0; c < 4; c++) {
            springs.load(c, 4, 1, 99, 0).load(c, 4, 0, -99, 0);
            rod.load(c, 1, 0, -99, 0);
        }
        springs.solve(10).combined(0x80808080, 4, 1, -50688, 1).combined(0x7F7F7F7F, 4, 1, 50292, 1);
        springs.combined(0x80808080, 4, 0, 50688, 1).combined(0x7F7F7F7F, 4, 0, -50292, 1);
        rod.solve(1).combined(0x80808080, 0, 0, 4608, 1).combined(0x80808080, 1, 1, -4608, 1);
        rod.combined(0x80808080, 1, 0, 21504, 1).combined(0x7F7F7F7F, 1, 0, -21336, 1);
        // A chain of soft bars, pulled at every node: its end goes by 4 + 3 + 2 + 1 times a load.
        Asked chain = new Asked().node(0, 0, 0, 0).fix(0);
        for (int n = 1; n < 5; n++) {
            chain.node(n, n, 0, 0).hold(n, 1, true, 0, 0).bar(n - 1, n, 1, n - 1);
            for (int c = 0; c < 4; c++) {
                chain.load(c, n, 0, 99, 0);
            }
        }
        chain.solve(4).determinant(1).displacement(0, 4, 0, 990, 1);
        chain.combined(0x80808080, 4, 0, -506880, 1).combined(0x7F7F7F7F, 1, 0, 201168, 1);
    }

    private static final long[] ALL_JOINED_COMBINED = {
        -1376783296L, 548901, 435426368, 182967, 2063923328L, 182967, 9979712, 2577,
        -863017088, 182967, -723624768, 60989, 3400488896L, 548901, -1219192768, 182967,
        4608, 1, -4608, 1
    };
    private static final long[] ALL_JOINED_MIXED = {
        -22650166, 548901, 2932598, 182967, -6590737, 182967, -138178, 2577,
        -84594143, 182967, -26516733, 60989, -214241929, 548901, 57390017, 182967,
        18, 1, -18, 1
    };
    private static final long[] ALL_JOINED_CASE_0 = {
        6334189, 1097802, -935980, 182967, -3907534, 182967, -18422, 2577,
        3628907, 365934, 1437986, 60989, -12353183, 1097802, 4558639, 365934,
        -9, 1, 9, 1
    };
    private static final long[] ALL_JOINED_FORCES_3 = {
        -14554138, 182967, 4976024, 60989, 101292, 60989, -208594, 182967, -22464, 60989,
        3878420, 60989, 738170, 60989, -11772710, 182967, -760634, 60989, 512470, 182967
    };

    /** Stiffest bars, greatest loads and holds; the numbers come from elimination in fractions. */
    private static void answersOfAllJoined() {
        promise(13, "The numerator or denominator of node n's displacement in the direction in a"
                + " combination: (great numbers)");
        Asked t = Asked.allJoined(3).hold(4, 0, true, -9, 0).hold(4, 1, true, 9, 0);
        for (int slot = 0; slot < 10; slot++) {
            t.spring(slot / 2, slot % 2, 3 - slot % 3, 0);
            boolean isUp = slot % 2 == 0 ? slot / 2 % 2 == 0 : slot / 2 >= 2;
            for (int c = 0; c < 4; c++) {
                int load = 99 - (3 * slot + 5 * c) % 11;
                t.load(c, slot / 2, slot % 2, isUp ? load : -load, 0);
            }
        }
        t.solve(8).determinant(19760436);
        for (int slot = 0; slot < 10; slot++) {
            int n = slot / 2;
            int d = slot % 2;
            int i = 2 * slot;
            t.combined(0x80808080, n, d, ALL_JOINED_COMBINED[i], ALL_JOINED_COMBINED[i + 1]);
            t.combined(0x7F807F80, n, d, ALL_JOINED_MIXED[i], ALL_JOINED_MIXED[i + 1]);
            t.displacement(0, n, d, ALL_JOINED_CASE_0[i], ALL_JOINED_CASE_0[i + 1]);
            t.force(3, slot, ALL_JOINED_FORCES_3[i], ALL_JOINED_FORCES_3[i + 1]);
        }
        t.reaction(3, 4, 0, -23880110, 182967).reaction(3, 4, 1, -7751573, 182967);
    }

    private static void combinedIsNone() {
        promise(13, "NONE as displacement.");
        Asked t = loaded().hold(3, 0, true, 1, 0).noCombined(1, 1, 0).noCombined(0, 0, 0);
        t.solve(1).combined(1, 1, 0, 2, 3);
        for (int bad : Asked.outside(0, 4)) {
            t.noCombined(1, bad, 0).noCombined(0, bad, 1);
        }
        for (int bad : Asked.outside(0, 1)) {
            t.noCombined(1, 1, bad).noCombined(0, 0, bad);
            t.combinedPart(1, 1, 0, bad, NONE).combinedPart(0, 0, 0, bad, NONE);
        }
        for (int n = 2; n < 5; n++) {
            t.noCombined(1, n, 0).noCombined(0, n, 1);
        }
        t.combined(1, 1, 0, 2, 3).open(0).noCombined(1, 1, 0).noCombined(0, 0, 0);
        t.hold(1, 1, false, 0, 0).solve(-301).noCombined(1, 1, 0).noCombined(0, 0, 0);
    }

    private static void determinants() {
        promise(14, "The determinant of the matrix (1 without UNKNOWNS);");
        new Asked().node(0, 0, 0, 0).fix(0).solve(0).determinant(1);
        Asked none = Asked.allJoined(3);
        for (int n = 0; n < 5; n++) {
            none.fix(n).spring(n, 0, 3, 0);
        }
        none.solve(0).determinant(1).open(0).hold(4, 0, false, 0, 0).solve(1).determinant(15);
        // Above 0 with any number of unknowns, even or odd.
        Asked t = Asked.sprung();
        for (int slot = 0; slot < 10; slot++) {
            t.spring(slot / 2, slot % 2, 2, 0).solve(10).determinant(2L << slot).open(0);
        }
        for (int slot = 0; slot < 10; slot++) {
            t.hold(slot / 2, slot % 2, true, 9, 0).solve(9 - slot).determinant(512L >> slot);
            t.open(0);
        }
    }

    private static void determinantOfGreatNumbers() {
        promise(14, "The determinant of the matrix (the greatest)");
        Asked springs = Asked.sprung();
        for (int slot = 0; slot < 10; slot++) {
            springs.spring(slot / 2, slot % 2, 3, 0);
        }
        springs.solve(10).determinant(59049);
        // All bars at one held node and one free one.
        Asked ten = Asked.rod().spring(1, 0, 3, 0);
        for (int i = 1; i < 10; i++) {
            ten.bar(0, 1, 3, i);
        }
        ten.solve(1).determinant(33);
        // Each node joined to each: 3 times as stiff in all makes 3 to the 10th times as much.
        for (int k = 1; k <= 3; k += 2) {
            Asked all = Asked.allJoined(k);
            for (int n = 0; n < 5; n++) {
                all.spring(n, 0, k, 0).spring(n, 1, k, 0);
            }
            all.solve(10).determinant(k == 1 ? 68229 : 59049L * 68229);
        }
    }

    private static void determinantIsNone() {
        promise(14, "NONE if not SEALED.");
        Asked t = new Asked().determinant(NONE).node(0, 0, 0, 0).determinant(NONE).solve(-300);
        t.determinant(NONE).fix(0).determinant(NONE).solve(0).determinant(1).open(0);
        t.determinant(NONE).bar(0, 1, 1, 0).solve(-200).determinant(NONE);
    }

    private static void orderPlaces() {
        promise(15, "The node at place i (from 0) of the ORDER; not SEALED, no such place:"
                + " REFUSED.");
        Asked t = new Asked().order(0, -1);
        for (int n = 0; n < 5; n++) {
            t.node(n, n, n, 0).fix(n).order(0, -1).order(n, -1).solve(0);
            for (int i = 0; i <= n; i++) {
                t.order(i, n - i);
            }
            t.order(n + 1, -1).order(-1, -1).open(0);
        }
        t.order(0, -1).order(4, -1).solve(0);
        for (int bad : Asked.outside(0, 4)) {
            t.order(bad, -1);
        }
        t.open(0).bar(0, 1, 1, 0).bar(0, 2, 1, 1).node(2, 3, 4, 0);
        t.solve(-201).order(0, -1).order(4, -1);
    }

    private static void unknownNumbers() {
        promise(16, "The number of the UNKNOWN of node n's direction; -2 if it's held;");
        Asked t = Asked.sprung().solve(10);
        for (int held = 0; held < 10; held++) {
            t.open(0).hold(held / 2, held % 2, true, 0, 0).solve(9);
            int next = 0;
            for (int place = 0; place < 10; place++) {
                int n = 4 - place / 2;
                int direction = place % 2;
                boolean isHeld = 2 * n + direction == held;
                t.unknown(n, direction, isHeld ? -2 : next);
                next += isHeld ? 0 : 1;
            }
            t.open(0).hold(held / 2, held % 2, false, 0, 0).solve(10).unknown(0, 1, 9);
        }
    }

    private static void unknownIsRefused() {
        promise(16, "not SEALED, not there: REFUSED.");
        Asked t = Asked.rod().hold(4, 0, true, 1, 0).unknown(0, 0, -1).unknown(1, 0, -1).solve(1);
        for (int n = 2; n < 5; n++) {
            t.unknown(n, 0, -1).unknown(n, 1, -1);
        }
        for (int bad : Asked.outside(0, 4)) {
            t.unknown(bad, 0, -1).unknown(bad, 1, -1);
        }
        for (int bad : Asked.outside(0, 1)) {
            t.unknown(0, bad, -1).unknown(1, bad, -1);
        }
        t.unknown(0, 0, -2).unknown(1, 0, 0).open(0).unknown(0, 0, -1).unknown(1, 0, -1);
        t.hold(1, 1, false, 0, 0).solve(-301).unknown(1, 0, -1).unknown(0, 0, -1);
    }

    private static void countOfNodes() {
        promise(17, "Nodes that are there (0)");
        Asked t = new Asked().count(0, 0).bar(0, 1, 1, 0).fix(3).count(0, 0);
        for (int n = 4; n >= 0; n--) {
            t.node(n, n, n, 0).count(0, 5 - n).node(n, 4, n, 0).count(0, 5 - n);
        }
        t.node(0, 4, 4, -2).node(5, 0, 0, -1).count(0, 5);
    }

    private static void countOfBars() {
        promise(17, "bars (1)");
        Asked t = Asked.rod().count(1, 1);
        for (int i = 1; i < 10; i++) {
            t.bar(0, 1, 1, i).count(1, i + 1);
        }
        t.bar(0, 1, 1, -3).count(1, 10).solve(1).count(1, 10).unbar(0, -4).count(1, 10).open(0);
        for (int left = 9; left >= 0; left--) {
            t.unbar(0, left).count(1, left);
        }
    }

    private static void countWhenSealed() {
        promise(17, "1 if SEALED, else 0 (2)");
        Asked t = new Asked().count(2, 0).solve(-100).count(2, 0).node(0, 0, 0, 0).count(2, 0);
        t.solve(-300).count(2, 0).fix(0).bar(0, 1, 1, 0).solve(-200).count(2, 0).unbar(0, 0);
        t.solve(0).count(2, 1).solve(-4).count(2, 1).node(0, 1, 1, -4).load(0, 0, 0, 1, 0);
        t.count(2, 1).open(0).count(2, 0).open(-1).count(2, 0);
    }

    private static void countOfUnknownsAndProfile() {
        promise(17, "UNKNOWNS, 0 if not SEALED (3), the PROFILE, 0 if not SEALED (4)");
        Asked t = Asked.sprung().bar(0, 4, 1, 0).counts(5, 1, 0, 0, 0).solve(10);
        t.counts(5, 1, 1, 10, 2).open(0).counts(5, 1, 0, 0, 0).bar(4, 3, 1, 1);
        t.bar(0, 3, 2, 2).counts(5, 3, 0, 0, 0).solve(10).wholeOrder(4, 3, 0, 2, 1);
        t.counts(5, 3, 1, 10, 6).open(0).spring(1, 1, 0, 0).solve(-309).counts(5, 3, 0, 0, 0);
        Asked none = new Asked().counts(0, 0, 0, 0, 0).node(3, 3, 3, 0).fix(3).solve(0);
        none.counts(1, 0, 1, 0, 0).open(0).counts(1, 0, 0, 0, 0);
    }

    private static void countIsRefused() {
        promise(17, "another what: REFUSED.");
        Asked open = new Asked();
        Asked sealed = Asked.sealedRod();
        for (int bad : Asked.outside(0, 4)) {
            open.count(bad, -1);
            sealed.count(bad, -1);
        }
        open.counts(0, 0, 0, 0, 0);
        sealed.counts(2, 1, 1, 1, 0);
    }

    private static void wrongArgumentsInEveryState() {
        Report.sentence("Terms", "Every call first tests its arguments in their order, out of range"
                + " or not there answering REFUSED, then what is said; (answers)");
        for (int bad : Asked.outside(0, 9)) {
            askWrongly(new Asked(), bad);
            askWrongly(loaded(), bad);
            askWrongly(loaded().hold(1, 1, false, 0, 0).solve(-301), bad);
            askWrongly(loaded().solve(1), bad);
            askWrongly(loaded().solve(1).open(0), bad);
        }
    }

    private static void askWrongly(Asked t, int bad) {
        t.noDisplacement(bad, 0, 0).noDisplacement(0, bad, 0).noDisplacement(0, 0, bad);
        t.noDisplacement(bad, bad, bad).displacementPart(0, 0, 0, bad, NONE);
        t.noForce(bad, 0).noForce(0, bad).noForce(bad, bad).forcePart(0, 0, bad, NONE);
        t.noReaction(bad, 0, 0).noReaction(0, bad, 0).noReaction(0, 0, bad);
        t.noReaction(bad, bad, bad).reactionPart(0, 0, 0, bad, NONE);
        t.noCombined(bad, bad, 0).noCombined(bad, 0, bad).combinedPart(bad, 0, 0, bad, NONE);
        t.order(bad, -1).unknown(bad, 0, -1).unknown(0, bad, -1).unknown(bad, bad, -1);
        t.count(bad, -1);
    }
}
