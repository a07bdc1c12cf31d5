/** Promises 23 to 28, 33, 34 and 40: ways, once for each symmetry, the cheapest, sets of nodes, another law. */
final class WayBoundaries extends TestKit {
    private static final int LEAST = Integer.MIN_VALUE;
    private static final int MOST = Integer.MAX_VALUE;

    /** A path of nodes 0 - 1 - 2 - 3 and a pattern of two linked vertices: six ways. */
    private static SubgraphDesk path() {
        SubgraphDesk x = desk(4, 2);
        edges(x, 0, 1, 1, 2, 2, 3);
        links(x, 0, 1);
        return x;
    }

    // ---- promise 23

    static void p23_withoutVerticesThereIsOne() {
        sentence("without VERTICES there is one.");
        due(new SubgraphDesk(), 1, "ways");
        due(desk(1, 0), 1, "ways");
        SubgraphDesk x = desk(12, 0);
        forced(x, "bars");
        due(x, 1, "ways");
    }

    static void p23_withoutNodesThereIsNone() {
        sentence("How many WAYS there are.");
        due(desk(0, 1), 0, "ways");
        due(desk(0, 5), 0, "ways");
    }

    static void p23_asManyNodesAsVertices() {
        sentence("A WAY: a row of different NODES by VERTICES");
        due(desk(1, 1), 1, "ways");
        due(desk(1, 2), 0, "ways");
        due(desk(2, 2), 2, "ways");
        due(desk(4, 5), 0, "ways");
        due(desk(5, 5), 120, "ways");
        due(desk(6, 5), 720, "ways");
    }

    static void p23_oneVertexOnEachNode() {
        sentence("A WAY: a row of different NODES by VERTICES, each VERTEX on one on which it MAY lie");
        for (int nodes = 1; nodes <= 12; nodes++) {
            due(nodes + " nodes", ask(desk(nodes, 1), "ways"), nodes);
        }
        SubgraphDesk x = desk(12, 1);
        ask(x, "paint", 3, 0);
        due("all but 3", ask(x, "ways"), 11);
        forced(x, "bars if node > 8");
        due("all but 3, 9, 10, 11", ask(x, "ways"), 8);
    }

    static void p23_theMost() {
        sentence("How many WAYS there are.");
        SubgraphDesk x = desk(12, 5);
        due(x, 95040, "ways");
        GraphBoundaries.allEdges(x);
        links(x, 0, 1, 0, 2, 0, 3, 0, 4, 1, 2, 1, 3, 1, 4, 2, 3, 2, 4, 3, 4);
        due(x, 95040, "ways");
        ask(x, "edge", 11, 10);
        due("without one edge: 5 * 4 * 10 * 9 * 8 rows have both its ends", ask(x, "ways"), 95040 - 14400);
    }

    static void p23_anEdgeWhereverThereIsALink() {
        sentence("each VERTEX on one on which it MAY lie, an EDGE wherever there is a LINK");
        SubgraphDesk x = path();
        due(x, 6, "ways");
        ask(x, "edge", 0, 2);
        due("an edge without a link is fine", ask(x, "ways"), 8);
        ask(x, "link", 0, 1);
        due(x, 12, "ways");
        ask(x, "link", 0, 1);
        ask(x, "paint", 1, 2);
        due("0-2, 2-0, 2-3, 3-2 are left", ask(x, "ways"), 4);
        ask(x, "dye", 0, 6);
        due("1-0, 1-2 too", ask(x, "ways"), 6);
    }

    static void p23_barredOnAll() {
        sentence("A VERTEX MAY lie on a NODE, if its COLOUR is that of the NODE or any, and it is not BARRED.");
        SubgraphDesk x = path();
        forced(x, "bars if vertex = 1");
        due(x, 0, "ways");
        forced(x, "bars if vertex = 1 and node < 3");
        due(x, 1, "ways");
    }

    // ---- promise 24

    static void p24_fromTheFirstToTheLast() {
        sentence("The NODE of a VERTEX in the i-th WAY. NONE.");
        SubgraphDesk x = path();
        due(x, 0, "way", 0, 0);
        due(x, 1, "way", 0, 1);
        due(x, 3, "way", 5, 0);
        due(x, 2, "way", 5, 1);
        none(x, "way", 6, 0);
        none(x, "way", -1, 0);
        due(x, -1, "way", MOST, 0);
        due(x, -1, "way", LEAST, 0);
    }

    static void p24_noSuchVertex() {
        sentence("The NODE of a VERTEX in the i-th WAY. NONE.");
        SubgraphDesk x = path();
        none(x, "way", 0, 2);
        none(x, "way", 0, -1);
        due(x, -1, "way", 0, MOST);
        due(x, -1, "way", 0, LEAST);
        due(x, -1, "way", 6, 2);
    }

    static void p24_theOneWithoutVertices() {
        sentence("without VERTICES there is one.");
        SubgraphDesk x = desk(3, 0);
        due(x, -1, "way", 0, 0);
        due(x, -1, "way", 0, -1);
        due(x, -1, "way", 1, 0);
    }

    static void p24_noWay() {
        sentence("The NODE of a VERTEX in the i-th WAY. NONE.");
        SubgraphDesk x = desk(3, 2);
        links(x, 0, 1);
        none(x, "way", 0, 0);
        due(x, -1, "way", 0, 1);
    }

    static void p24_inTheOrderOfTheirRows() {
        sentence("WAYS are in the order of their rows (by the NODE of VERTEX 0, then of 1 and so on)");
        SubgraphDesk x = path();
        int[] rows = {1, 10, 12, 21, 23, 32};
        for (int i = 0; i < rows.length; i++) {
            due("way " + i, 10 * ask(x, "way", i, 0) + ask(x, "way", i, 1), rows[i]);
        }
        SubgraphDesk y = desk(3, 3);
        int[] all = {12, 21, 102, 120, 201, 210};
        for (int i = 0; i < all.length; i++) {
            due("way " + i, 100 * ask(y, "way", i, 0) + 10 * ask(y, "way", i, 1) + ask(y, "way", i, 2), all[i]);
        }
    }

    static void p24_oneVertexOnEachNode() {
        sentence("The NODE of a VERTEX in the i-th WAY. NONE.");
        SubgraphDesk x = desk(12, 1);
        for (int i = 0; i < 12; i++) {
            due(x, i, "way", i, 0);
        }
        none(x, "way", 12, 0);
        ask(x, "paint", 3, 0);
        due(x, 2, "way", 2, 0);
        due(x, 4, "way", 3, 0);
        due(x, 11, "way", 10, 0);
        none(x, "way", 11, 0);
    }

    static void p24_theLastOfTheMost() {
        sentence("WAYS are in the order of their rows");
        SubgraphDesk x = desk(12, 5);
        for (int v = 0; v < 5; v++) {
            due(x, v, "way", 0, v);
            due(x, 11 - v, "way", 95039, v);
            due(x, -1, "way", 95040, v);
        }
        due("the 8th changes vertex 3", ask(x, "way", 7, 3) * 100 + ask(x, "way", 7, 4), 311);
        due("the 9th", ask(x, "way", 8, 3) * 100 + ask(x, "way", 8, 4), 403);
    }

    // ---- promise 25

    static void p25_withoutSymmetriesAllOfThem() {
        sentence("How many WAYS there are ONCE.");
        SubgraphDesk x = path();
        due(x, 3, "once");
        ask(x, "dye", 1, 6);
        due(x, 6, "ways");
        due("of other colours", ask(x, "once"), 6);
    }

    static void p25_theEmptyPatternAndNoWay() {
        sentence("How many WAYS there are ONCE.");
        due(new SubgraphDesk(), 1, "once");
        due(desk(3, 0), 1, "once");
        due(desk(0, 2), 0, "once");
        due(desk(1, 2), 0, "once");
        due(desk(1, 1), 1, "once");
    }

    static void p25_oneVertexOnEachNode() {
        sentence("How many WAYS there are ONCE.");
        SubgraphDesk x = desk(12, 1);
        due(x, 12, "once");
        ask(x, "paint", 0, 0);
        due(x, 11, "once");
    }

    static void p25_theMost() {
        sentence("ONCE: the WAYS that are the first of those WAYS one gets from them");
        SubgraphDesk x = desk(12, 5);
        due(x, 792, "once");
        ask(x, "dye", 4, 6);
        due("24 symmetries", ask(x, "once"), 3960);
        for (int v = 0; v < 4; v++) {
            for (int n = v; n < 12; n += 4) {
                ask(x, "paint", n, v + 2);
            }
            ask(x, "dye", v, v + 2);
        }
        due("one symmetry: 3 * 3 * 3 * 3 * 8", ask(x, "once"), 648);
    }

    static void p25_rowsThatAreNoWaysAside() {
        sentence("(rows that are no WAYS aside)");
        SubgraphDesk x = path();
        forced(x, "bars if vertex = 0 and node = 0");
        due("0-1 is no way, so 1-0 is the first", ask(x, "once"), 3);
        due("1-0", ask(x, "onceWay", 0, 0) * 10 + ask(x, "onceWay", 0, 1), 10);
        forced(x, "bars if vertex = 0 and node > 0");
        due(x, 1, "once");
        forced(x, "bars if vertex = 1 and node = 1");
        due("0-1 and 2-1 are no ways", ask(x, "ways"), 4);
        due("1-0, 1-2, 2-3 (3-2 comes behind it)", ask(x, "once"), 3);
    }

    static void p25_rowsThatAreNoWaysAsideOfFourVertices() {
        sentence("(rows that are no WAYS aside)");
        SubgraphDesk x = desk(5, 4);
        forced(x, "bars if [vertex * 3 + node * 2] % 4 = 1");
        due(x, 36, "ways");
        due(x, 5, "once");
        int[] rows = {213, 241, 243, 413, 1243};
        for (int i = 0; i < rows.length; i++) {
            long row = ask(x, "onceWay", i, 0);
            for (int v = 1; v < 4; v++) {
                row = row * 10 + ask(x, "onceWay", i, v);
            }
            due("onceWay " + i, row, rows[i]);
        }
    }

    static void p25_bySomeSymmetryEachLiesWhereThatForItLay() {
        sentence("if by some SYMMETRY each VERTEX lies where that for it lay");
        SubgraphDesk x = desk(4, 3);
        edges(x, 0, 1, 1, 2, 2, 3, 3, 0);
        links(x, 0, 1, 1, 2);
        due("8 ways of a path on a ring of four", ask(x, "ways"), 8);
        due("each end may come first", ask(x, "once"), 4);
        links(x, 0, 2);
        ask(x, "edge", 0, 2);
        due("a triangle on two triangles", ask(x, "once"), 2);
    }

    // ---- promise 26

    static void p26_fromTheFirstToTheLast() {
        sentence("The NODE of a VERTEX in the i-th of the WAYS there are ONCE. NONE.");
        SubgraphDesk x = path();
        int[] rows = {1, 12, 23};
        for (int i = 0; i < rows.length; i++) {
            due("onceWay " + i, 10 * ask(x, "onceWay", i, 0) + ask(x, "onceWay", i, 1), rows[i]);
        }
        none(x, "onceWay", 3, 0);
        none(x, "onceWay", -1, 0);
        due(x, -1, "onceWay", MOST, 0);
        due(x, -1, "onceWay", LEAST, 0);
    }

    static void p26_noSuchVertex() {
        sentence("The NODE of a VERTEX in the i-th of the WAYS there are ONCE. NONE.");
        SubgraphDesk x = path();
        none(x, "onceWay", 0, 2);
        none(x, "onceWay", 0, -1);
        due(x, -1, "onceWay", 0, MOST);
        due(x, -1, "onceWay", 0, LEAST);
    }

    static void p26_theEmptyPatternAndNoWay() {
        sentence("The NODE of a VERTEX in the i-th of the WAYS there are ONCE. NONE.");
        due(new SubgraphDesk(), -1, "onceWay", 0, 0);
        due(desk(2, 0), -1, "onceWay", 0, -1);
        due(desk(1, 2), -1, "onceWay", 0, 0);
    }

    static void p26_oneVertexOnEachNode() {
        sentence("The NODE of a VERTEX in the i-th of the WAYS there are ONCE. NONE.");
        SubgraphDesk x = desk(12, 1);
        ask(x, "paint", 0, 0);
        due(x, 1, "onceWay", 0, 0);
        due(x, 11, "onceWay", 10, 0);
        none(x, "onceWay", 11, 0);
    }

    static void p26_theLastOfTheMost() {
        sentence("ONCE: the WAYS that are the first of those WAYS one gets from them");
        SubgraphDesk x = desk(12, 5);
        for (int v = 0; v < 5; v++) {
            due(x, v, "onceWay", 0, v);
            due(x, 7 + v, "onceWay", 791, v);
            due(x, -1, "onceWay", 792, v);
        }
        due(x, 11, "onceWay", 7, 4);
        due(x, 4, "onceWay", 8, 3);
        due(x, 5, "onceWay", 8, 4);
    }

    // ---- promise 27

    static void p27_from1To120() {
        sentence("How many SYMMETRIES there are.");
        int[] all = {1, 1, 2, 6, 24, 120};
        for (int v = 0; v <= 5; v++) {
            due(v + " vertices", ask(desk(0, v), "symmetries"), all[v]);
        }
        SubgraphDesk x = desk(0, 5);
        links(x, 0, 1, 0, 2, 0, 3, 0, 4, 1, 2, 1, 3, 1, 4, 2, 3, 2, 4, 3, 4);
        due("all linked", ask(x, "symmetries"), 120);
        ask(x, "link", 0, 1);
        due("all but one link", ask(x, "symmetries"), 12);
    }

    static void p27_ofTheSameColour() {
        sentence("A SYMMETRY: a VERTEX for each VERTEX, all different, of the same COLOUR");
        SubgraphDesk x = new SubgraphDesk();
        for (int colour : new int[] {0, 1, 2, 5, 6}) {
            ask(x, "vertex", colour);
        }
        due(x, 1, "symmetries");
        ask(x, "dye", 3, 6);
        due("two of any colour", ask(x, "symmetries"), 2);
        ask(x, "dye", 0, 1);
        due("and two of colour 1", ask(x, "symmetries"), 4);
    }

    static void p27_linkedJustWhereTheyAre() {
        sentence("LINKED just where they are.");
        SubgraphDesk x = desk(0, 5);
        links(x, 0, 1, 1, 2, 2, 3, 3, 4);
        due("a path", ask(x, "symmetries"), 2);
        links(x, 4, 0);
        due("a ring", ask(x, "symmetries"), 10);
        links(x, 0, 2);
        due("a ring with a chord", ask(x, "symmetries"), 2);
        SubgraphDesk y = desk(0, 4);
        links(y, 0, 1, 0, 2, 0, 3);
        due("a star", ask(y, "symmetries"), 6);
        links(y, 1, 2);
        due("a star with a chord", ask(y, "symmetries"), 2);
    }

    static void p27_nodesAndLawsDoNotMatter() {
        sentence("How many SYMMETRIES there are.");
        SubgraphDesk x = desk(0, 3);
        forced(x, "bars if vertex = 1; costs vertex");
        due(x, 6, "symmetries");
    }

    // ---- promise 28

    static void p28_theCostAndTheNodes() {
        sentence("The WAY of the least COST, the first: the COST (vertex NONE), the NODE of a VERTEX. NONE (there is none; others).");
        SubgraphDesk x = path();
        forced(x, "costs 20 - node * 2 - vertex");
        due("16 + 13 for 2-3, 14 + 15 for 3-2", ask(x, "best", -1), 29);
        due("the first of both", ask(x, "best", 0), 2);
        due(x, 3, "best", 1);
        none(x, "best", 2);
        none(x, "best", -2);
        due(x, -1, "best", MOST);
        due(x, -1, "best", LEAST);
    }

    static void p28_theFirstOfThoseOfTheLeastCost() {
        sentence("The WAY of the least COST, the first");
        SubgraphDesk x = path();
        due(x, 2, "best", -1);
        due(x, 0, "best", 0);
        due(x, 1, "best", 1);
        forced(x, "costs 5; costs 4 if node > 0");
        due(x, 8, "best", -1);
        due(x, 1, "best", 0);
        due(x, 2, "best", 1);
        forced(x, "costs 5; costs 4 if node = 3");
        due(x, 2, "best", 0);
        due(x, 3, "best", 1);
    }

    static void p28_from0ToTheMost() {
        sentence("COST of a WAY: of all VERTICES together.");
        SubgraphDesk x = desk(5, 5);
        due(x, 5, "best", -1);
        forced(x, "costs 99");
        due(x, 495, "best", -1);
        forced(x, "costs 0");
        due(x, 0, "best", -1);
        forced(x, "costs 100 * [vertex + 1]");
        due(x, 495, "best", -1);
    }

    static void p28_oneVertexOnEachNode() {
        sentence("The WAY of the least COST, the first");
        SubgraphDesk x = desk(12, 1);
        due(x, 1, "best", -1);
        due(x, 0, "best", 0);
        forced(x, "costs 20 - node");
        due(x, 9, "best", -1);
        due(x, 11, "best", 0);
        forced(x, "costs 20 - node / 2");
        due(x, 15, "best", -1);
        due("10 ahead of 11", ask(x, "best", 0), 10);
    }

    static void p28_noWay() {
        sentence("NONE (there is none; others).");
        SubgraphDesk x = path();
        forced(x, "bars; costs 0");
        none(x, "best", -1);
        due(x, -1, "best", 0);
        due(x, -1, "best", 1);
    }

    static void p28_theEmptyPattern() {
        sentence("NONE (there is none; others).");
        SubgraphDesk x = desk(2, 0);
        due(x, 0, "best", -1);
        none(x, "best", 0);
        due(new SubgraphDesk(), 0, "best", -1);
        due(new SubgraphDesk(), -1, "best", 0);
    }

    // ---- promise 33

    static void p33_nFrom0To60() {
        sentence("SETS, n 0 .. 60. NONE.");
        SubgraphDesk x = path();
        due(x, 0, "sets", 0);
        due(x, 1, "sets", 1);
        due(x, 3, "sets", 60);
        none(x, "sets", 61);
        none(x, "sets", -1);
        due(x, -1, "sets", MOST);
        due(x, -1, "sets", LEAST);
    }

    static void p33_ofTheFirstNOrAllIfTheyAreFewer() {
        sentence("SETS: how many different sets of NODES the first n WAYS (all, if they are fewer) lie on.");
        SubgraphDesk x = path();
        int[] sets = {0, 1, 1, 2, 2, 3, 3, 3};
        for (int n = 0; n < sets.length; n++) {
            due(x, sets[n], "sets", n);
        }
    }

    static void p33_sixtyOfSixtyWays() {
        sentence("SETS: how many different sets of NODES");
        SubgraphDesk x = desk(12, 3);
        forced(x, "bars if vertex = 0 and node > 3 or vertex = 1 and (node < 4 or node > 7) or vertex = 2 and node < 8");
        due(x, 64, "ways");
        due(x, 60, "sets", 60);
        due(x, 59, "sets", 59);
    }

    static void p33_oneVertexOnEachNode() {
        sentence("SETS: how many different sets of NODES the first n WAYS (all, if they are fewer) lie on.");
        SubgraphDesk x = desk(12, 1);
        for (int n = 0; n <= 12; n++) {
            due(x, n, "sets", n);
        }
        due(x, 12, "sets", 13);
        due(x, 12, "sets", 60);
    }

    static void p33_theSameSetAgainIsNoOther() {
        sentence("SETS: how many different sets of NODES");
        SubgraphDesk x = desk(12, 5);
        due("0 1 2 3 and another", ask(x, "sets", 8), 8);
        due("0 1 2 4 3 again", ask(x, "sets", 9), 8);
        due("0 1 2 4 5", ask(x, "sets", 10), 9);
        due("8 + 7 + 6 + 5 + 4 + 3 + 2, and 0 1 2 10 with 3, 4, 5, 6 again", ask(x, "sets", 60), 35);
    }

    static void p33_theEmptyPatternAndNoWay() {
        sentence("the first n WAYS (all, if they are fewer)");
        SubgraphDesk x = new SubgraphDesk();
        due(x, 0, "sets", 0);
        due("the empty set", ask(x, "sets", 1), 1);
        due(x, 1, "sets", 60);
        SubgraphDesk y = desk(1, 2);
        due(y, 0, "sets", 0);
        due(y, 0, "sets", 60);
    }

    // ---- promise 34

    static void p34_fromNoneToAll() {
        sentence("TOUCHED, as bits.");
        sentence("TOUCHED: NODES on which some WAY lies.");
        due(new SubgraphDesk(), 0, "touched");
        due(desk(12, 0), 0, "touched");
        due(desk(0, 1), 0, "touched");
        due(desk(1, 2), 0, "touched");
        due(desk(1, 1), 1, "touched");
        due(desk(12, 1), 4095, "touched");
        due(desk(12, 5), 4095, "touched");
    }

    static void p34_theNodesOfSomeWayAlone() {
        sentence("TOUCHED: NODES on which some WAY lies.");
        SubgraphDesk x = desk(12, 2);
        edges(x, 0, 11, 5, 6);
        links(x, 0, 1);
        due(x, 1 + 2048 + 32 + 64, "touched");
        ask(x, "paint", 6, 3);
        due(x, 1 + 2048, "touched");
        ask(x, "paint", 11, 3);
        due(x, 0, "touched");
        ask(x, "dye", 0, 6);
        due(x, 1 + 2048 + 32 + 64, "touched");
        forced(x, "bars if vertex = 1 and node = 0");
        due(x, 32 + 64, "touched");
    }

    // ---- promise 40

    static void p40_fromNoneToTheLastLaw() {
        sentence("COMPARED. NONE (no such LAW; there is no WAY).");
        SubgraphDesk x = path();
        due(x, 2, "compare", -1);
        none(x, "compare", 0);
        law(x, "costs 7");
        due(x, 14, "compare", 0);
        none(x, "compare", 1);
        none(x, "compare", -2);
        due(x, -1, "compare", MOST);
        due(x, -1, "compare", LEAST);
        due(x, -1, "count", 13);
    }

    static void p40_inPlaceOfThatInForce() {
        sentence("COMPARED: the least COST of a WAY by a LAW (what is BARRED, too) in place of that in FORCE (NONE: none).");
        SubgraphDesk x = path();
        law(x, "costs 7; bars if node = 0");
        law(x, "bars");
        law(x, "costs 3 - node");
        ask(x, "force", 1);
        due(x, 14, "compare", 0);
        due(x, -1, "compare", 1);
        due("1 for 2 and 0 for 3", ask(x, "compare", 2), 1);
        due(x, 2, "compare", -1);
        due(x, 1, "count", 13);
        ask(x, "force", 0);
        due(x, 2, "compare", -1);
        due(x, -1, "compare", 1);
        due(x, 14, "best", -1);
    }

    static void p40_theEmptyPatternAndNoWay() {
        sentence("NONE (no such LAW; there is no WAY).");
        SubgraphDesk x = new SubgraphDesk();
        law(x, "bars; costs 50");
        due(x, 0, "compare", -1);
        due(x, 0, "compare", 0);
        ask(x, "vertex", 1);
        due(x, -1, "compare", -1);
        due(x, -1, "compare", 0);
    }

    static void p40_oneVertexOnEachNode() {
        sentence("COMPARED: the least COST of a WAY by a LAW (what is BARRED, too)");
        SubgraphDesk x = desk(12, 1);
        law(x, "costs 20 - node; bars if node = 11");
        due(x, 1, "compare", -1);
        due("10 is the last that is not barred", ask(x, "compare", 0), 10);
    }

    static void p40_allSixLaws() {
        sentence("LAWS, 6 at most");
        SubgraphDesk x = desk(1, 1);
        for (int i = 0; i < 6; i++) {
            law(x, "costs " + (10 + i));
        }
        for (int i = 0; i < 6; i++) {
            due(x, 10 + i, "compare", i);
        }
        due(x, -1, "compare", 6);
    }
}
