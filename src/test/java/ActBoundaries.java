/** Promises 18 to 22: to join, to link, to paint, to dye, to take it back. */
final class ActBoundaries extends TestKit {
    private static final int LEAST = Integer.MIN_VALUE;
    private static final int MOST = Integer.MAX_VALUE;

    // ---- promise 18

    static void p18_joinedThenNoMoreThenAgain() {
        sentence("To JOIN: whether there is an EDGE then (1, 0).");
        sentence("To JOIN two NODES: there is an EDGE between them (it came last), if there was none, else no more.");
        SubgraphDesk x = desk(3, 0);
        taken(x, 1, "edge", 0, 1);
        taken(x, 1, "edge", 1, 2);
        taken(x, 0, "edge", 1, 0);
        due(x, 14, "came", 0);
        taken(x, 1, "edge", 1, 0);
        due(x, 14, "came", 0);
        due(x, 1, "came", 1);
        due(x, 2, "count", 2);
    }

    static void p18_oneAlone() {
        sentence("-1 (one alone); -2.");
        SubgraphDesk x = desk(2, 0);
        refused(x, -1, "edge", 0, 0);
        refused(x, -1, "edge", 1, 1);
    }

    static void p18_oneAloneGoesAheadOfNoSuchNode() {
        sentence("The first of these in that order.");
        SubgraphDesk x = desk(2, 0);
        due(x, -1, "edge", 2, 2);
        due(x, -1, "edge", -1, -1);
        due(x, -1, "edge", MOST, MOST);
        due(x, -1, "edge", LEAST, LEAST);
        due(new SubgraphDesk(), -1, "edge", 0, 0);
    }

    static void p18_noSuchNodeOnEitherSide() {
        sentence("-2 there is no such NODE, VERTEX, LAW, IMAGE");
        SubgraphDesk x = desk(2, 0);
        refused(x, -2, "edge", 0, 2);
        refused(x, -2, "edge", 2, 1);
        refused(x, -2, "edge", -1, 1);
        refused(x, -2, "edge", 0, -1);
        due(x, -2, "edge", LEAST, MOST);
        due(x, 1, "edge", 1, 0);
        due(new SubgraphDesk(), -2, "edge", 0, 1);
    }

    static void p18_theLastTwoOfTwelve() {
        sentence("NODES 0 .. 11 (12 at most)");
        SubgraphDesk x = desk(12, 0);
        refused(x, -2, "edge", 11, 12);
        taken(x, 1, "edge", 11, 10);
        due(x, 1024, "of", 11, 2);
        due(x, 2048, "of", 10, 2);
    }

    static void p18_aFullGraphAndBackToNone() {
        sentence("it came last");
        SubgraphDesk x = desk(12, 0);
        GraphBoundaries.allEdges(x);
        due(x, 66, "count", 2);
        GraphBoundaries.allEdges(x);
        due(x, 0, "count", 2);
        due(x, -1, "came", 0);
        GraphBoundaries.allEdges(x);
        due(x, 131, "came", 65);
        due(x, 11, "of", 11, 1);
    }

    // ---- promise 19

    static void p19_linkedThenNoMoreThenAgain() {
        sentence("To LINK: whether there is a LINK then (1, 0).");
        sentence("To LINK two VERTICES: likewise.");
        SubgraphDesk x = desk(0, 3);
        taken(x, 1, "link", 0, 2);
        taken(x, 0, "link", 2, 0);
        due(x, 0, "count", 3);
        due(x, 0, "at", 0, 2);
        taken(x, 1, "link", 2, 0);
        due(x, 1, "count", 3);
        due(x, 4, "at", 0, 2);
        due(x, 1, "at", 2, 2);
        due(x, 0, "at", 1, 2);
    }

    static void p19_oneAlone() {
        sentence("To LINK: whether there is a LINK then (1, 0). -1 (one alone); -2.");
        SubgraphDesk x = desk(0, 2);
        refused(x, -1, "link", 0, 0);
        refused(x, -1, "link", 1, 1);
    }

    static void p19_oneAloneGoesAheadOfNoSuchVertex() {
        sentence("The first of these in that order.");
        SubgraphDesk x = desk(0, 2);
        due(x, -1, "link", 2, 2);
        due(x, -1, "link", -1, -1);
        due(x, -1, "link", MOST, MOST);
        due(x, -1, "link", LEAST, LEAST);
        due(new SubgraphDesk(), -1, "link", 0, 0);
    }

    static void p19_noSuchVertexOnEitherSide() {
        sentence("-2 there is no such NODE, VERTEX, LAW, IMAGE");
        SubgraphDesk x = desk(5, 2);
        refused(x, -2, "link", 0, 2);
        refused(x, -2, "link", 2, 1);
        refused(x, -2, "link", -1, 1);
        refused(x, -2, "link", 0, -1);
        due(x, -2, "link", LEAST, MOST);
        due(x, 1, "link", 1, 0);
        due(new SubgraphDesk(), -2, "link", 0, 1);
    }

    static void p19_aFullPatternHasTenLinks() {
        sentence("VERTICES 0 .. 4 (5 at most)");
        SubgraphDesk x = desk(0, 5);
        refused(x, -2, "link", 4, 5);
        for (int v = 0; v < 5; v++) {
            for (int u = 0; u < v; u++) {
                due(x, 1, "link", u, v);
            }
        }
        due(x, 10, "count", 3);
        due(x, 30, "at", 0, 2);
        due(x, 15, "at", 4, 2);
    }

    // ---- promise 20

    static void p20_colourIsFrom0To5() {
        sentence("To PAINT: what the COLOUR was. -1; -2; -3 it is so.");
        SubgraphDesk x = desk(2, 0);
        taken(x, 1, "paint", 1, 5);
        taken(x, 5, "paint", 1, 0);
        due(x, 0, "of", 1, 0);
        due(x, 1, "of", 0, 0);
        refused(x, -1, "paint", 1, 6);
        refused(x, -1, "paint", 1, -1);
        due(x, -1, "paint", 1, MOST);
        due(x, -1, "paint", 1, LEAST);
    }

    static void p20_noSuchNode() {
        sentence("To PAINT: what the COLOUR was. -1; -2; -3 it is so.");
        SubgraphDesk x = desk(2, 0);
        refused(x, -2, "paint", 2, 0);
        refused(x, -2, "paint", -1, 0);
        due(x, -2, "paint", MOST, 0);
        due(x, -2, "paint", LEAST, 0);
        due(new SubgraphDesk(), -2, "paint", 0, 0);
        SubgraphDesk full = desk(12, 0);
        due(full, -2, "paint", 12, 0);
        due(full, 1, "paint", 11, 0);
    }

    static void p20_itIsSo() {
        sentence("To PAINT a NODE, to DYE a VERTEX: it has another COLOUR.");
        SubgraphDesk x = desk(1, 0);
        refused(x, -3, "paint", 0, 1);
        taken(x, 1, "paint", 0, 2);
        refused(x, -3, "paint", 0, 2);
        due(x, 1, "count", 6);
        taken(x, 2, "paint", 0, 1);
    }

    static void p20_theFirstReasonCounts() {
        sentence("The first of these in that order.");
        SubgraphDesk x = desk(1, 0);
        due(x, -1, "paint", 5, 6);
        due(x, -1, "paint", 0, 6);
        due(x, -2, "paint", 1, 1);
        due(x, -3, "paint", 0, 1);
    }

    // ---- promise 21

    static void p21_colourIsFrom0To6() {
        sentence("To DYE: what the COLOUR was. -1; -2; -3 it is so.");
        SubgraphDesk x = desk(0, 2);
        taken(x, 1, "dye", 1, 6);
        taken(x, 6, "dye", 1, 5);
        taken(x, 5, "dye", 1, 0);
        due(x, 0, "at", 1, 0);
        due(x, 1, "at", 0, 0);
        refused(x, -1, "dye", 1, 7);
        refused(x, -1, "dye", 1, -1);
        due(x, -1, "dye", 1, MOST);
        due(x, -1, "dye", 1, LEAST);
    }

    static void p21_noSuchVertex() {
        sentence("To DYE: what the COLOUR was. -1; -2; -3 it is so.");
        SubgraphDesk x = desk(9, 2);
        due(x, -2, "dye", 2, 0);
        due(x, -2, "dye", -1, 0);
        due(x, -2, "dye", MOST, 0);
        due(x, -2, "dye", LEAST, 0);
        SubgraphDesk none = new SubgraphDesk();
        refused(none, -2, "dye", 0, 0);
        SubgraphDesk full = desk(0, 5);
        refused(full, -2, "dye", 5, 0);
        due(full, 1, "dye", 4, 0);
    }

    static void p21_itIsSo() {
        sentence("To PAINT a NODE, to DYE a VERTEX: it has another COLOUR.");
        SubgraphDesk x = desk(0, 1);
        refused(x, -3, "dye", 0, 1);
        taken(x, 1, "dye", 0, 6);
        refused(x, -3, "dye", 0, 6);
        due(x, 1, "count", 6);
        taken(x, 6, "dye", 0, 1);
    }

    static void p21_theFirstReasonCounts() {
        sentence("The first of these in that order.");
        SubgraphDesk x = desk(0, 1);
        due(x, -1, "dye", 5, 7);
        due(x, -1, "dye", 0, 7);
        due(x, -2, "dye", 1, 1);
        due(x, -3, "dye", 0, 1);
    }

    // ---- promise 22

    static void p22_anEmptyPile() {
        sentence("-3 there is none");
        SubgraphDesk x = new SubgraphDesk();
        refused(x, -3, "undo");
        refused(x, -3, "undo");
        SubgraphDesk y = desk(2, 0);
        edges(y, 0, 1);
        taken(y, 0, "undo");
        refused(y, -3, "undo");
        due(y, 0, "count", 2);
    }

    static void p22_eachSortTellsItsNumber() {
        sentence("The latest edge(), link(), paint(), dye() (by ORDERS, too; 16 are kept) is undone "
            + "(EDGES, their order, LINKS, COLOURS are as they were): 0 .. 3.");
        SubgraphDesk x = desk(2, 2);
        edges(x, 0, 1);
        links(x, 0, 1);
        ask(x, "paint", 1, 5);
        ask(x, "dye", 1, 6);
        taken(x, 3, "undo");
        due(x, 1, "at", 1, 0);
        taken(x, 2, "undo");
        due(x, 1, "of", 1, 0);
        taken(x, 1, "undo");
        due(x, 0, "count", 3);
        taken(x, 0, "undo");
        due(x, 0, "count", 2);
        due(x, -3, "undo");
    }

    static void p22_anEdgeStandsAgainWhereItStood() {
        sentence("(EDGES, their order, LINKS, COLOURS are as they were)");
        int[] told = {1, 14, 27, 3};
        for (int gone = 0; gone < 4; gone++) {
            SubgraphDesk x = desk(4, 0);
            edges(x, 0, 1, 1, 2, 2, 3, 3, 0);
            ask(x, "edge", told[gone] / 12, told[gone] % 12);
            taken(x, 0, "undo");
            for (int i = 0; i < 4; i++) {
                due(x, told[i], "came", i);
            }
            due(x, -1, "came", 4);
            for (int n = 0; n < 4; n++) {
                due(x, n % 2 == 0 ? 10 : 5, "of", n, 2);
            }
        }
    }

    static void p22_takenAwayAndCameAgainIsTakenBackTwice() {
        sentence("(EDGES, their order, LINKS, COLOURS are as they were)");
        SubgraphDesk x = desk(3, 0);
        edges(x, 0, 1, 1, 2, 1, 0, 0, 1);
        due(x, 1, "came", 1);
        due(x, 0, "undo");
        due(x, 1, "count", 2);
        due(x, 0, "undo");
        due(x, 1, "came", 0);
        due(x, 14, "came", 1);
    }

    static void p22_aFullGraphLosesOneAndHasItBack() {
        sentence("(EDGES, their order, LINKS, COLOURS are as they were)");
        SubgraphDesk x = desk(12, 0);
        GraphBoundaries.allEdges(x);
        ask(x, "edge", 0, 1);
        due(x, 65, "count", 2);
        due(x, 0, "undo");
        due(x, 66, "count", 2);
        due(x, 1, "came", 0);
        due(x, 131, "came", 65);
    }

    static void p22_aLinkTakenAwayStandsAgain() {
        sentence("(EDGES, their order, LINKS, COLOURS are as they were)");
        SubgraphDesk x = desk(0, 3);
        links(x, 0, 1, 1, 2, 0, 1);
        due(x, 1, "count", 3);
        due(x, 1, "undo");
        due(x, 5, "at", 1, 2);
        due(x, 2, "at", 0, 2);
    }

    static void p22_sixteenAreKept() {
        sentence("(by ORDERS, too; 16 are kept)");
        SubgraphDesk x = desk(1, 0);
        for (int i = 1; i <= 16; i++) {
            ask(x, "paint", 0, i % 2 == 1 ? 5 : 0);
            due(x, i, "count", 6);
        }
        for (int i = 16; i >= 1; i--) {
            due(x, 2, "undo");
            due(x, i - 1, "count", 6);
        }
        due(x, 1, "of", 0, 0);
        due(x, -3, "undo");
    }

    static void p22_theSeventeenthPushesTheFirstOut() {
        sentence("(by ORDERS, too; 16 are kept)");
        SubgraphDesk x = desk(2, 2);
        ask(x, "paint", 0, 4);
        ask(x, "dye", 0, 6);
        for (int i = 0; i < 15; i++) {
            ask(x, i % 2 == 0 ? "edge" : "link", 0, 1);
        }
        due(x, 16, "count", 6);
        for (int i = 14; i >= 0; i--) {
            due(x, i % 2 == 0 ? 0 : 1, "undo");
        }
        due(x, 3, "undo");
        due(x, 1, "at", 0, 0);
        refused(x, -3, "undo");
        due(x, 4, "of", 0, 0);
        due(x, 0, "count", 2);
        due(x, 0, "count", 3);
    }

    static void p22_eachOfSeventeenOnAnotherNode() {
        sentence("(by ORDERS, too; 16 are kept)");
        SubgraphDesk x = desk(12, 5);
        edges(x, 2, 7, 0, 1);
        for (int n = 0; n < 11; n++) {
            ask(x, "paint", n, n % 6 == 1 ? 5 : n % 6);
        }
        for (int v = 0; v < 5; v++) {
            ask(x, "dye", v, v == 1 ? 6 : v);
        }
        for (int v = 4; v >= 0; v--) {
            due(x, 3, "undo");
            due(x, 1, "at", v, 0);
        }
        for (int n = 10; n >= 0; n--) {
            due(x, n % 6 == 1 ? 5 : n % 6, "of", n, 0);
            due(x, 2, "undo");
            due(x, 1, "of", n, 0);
        }
        due(x, -3, "undo");
        due(x, 31, "came", 0);
        due(x, 1, "came", 1);
    }

    static void p22_oneUndoneLeavesTheOthersOfItsNumber() {
        sentence("(EDGES, their order, LINKS, COLOURS are as they were)");
        SubgraphDesk x = desk(2, 2);
        edges(x, 0, 1);
        ask(x, "dye", 0, 5);
        ask(x, "paint", 0, 3);
        due(x, 2, "undo");
        due("undo of paint leaves the vertex", ask(x, "at", 0, 0), 5);
        ask(x, "paint", 0, 4);
        ask(x, "dye", 0, 0);
        due(x, 3, "undo");
        due("undo of dye leaves the node", ask(x, "of", 0, 0), 4);
        links(x, 0, 1);
        due(x, 1, "undo");
        due("undo of link leaves the colours", ask(x, "of", 0, 0) * 10 + ask(x, "at", 0, 0), 45);
        due(x, 1, "count", 2);
        edges(x, 0, 1);
        links(x, 0, 1, 0, 1, 0, 1);
        ask(x, "undo");
        ask(x, "undo");
        ask(x, "undo");
        due(x, 0, "undo");
        due("undo of edge leaves the links", ask(x, "count", 3) * 10 + ask(x, "count", 2), 1);
    }

    static void p22_byOrdersToo() {
        sentence("(by ORDERS, too; 16 are kept)");
        SubgraphDesk x = desk(2, 2);
        due("orders", orders(x, "join 0 to 1; tie 0 to 1; paint 1 as 3; dye 1 as 4"), 4);
        due(x, 4, "count", 6);
        due(x, 3, "undo");
        due(x, 2, "undo");
        due(x, 1, "undo");
        due(x, 0, "undo");
        due(x, -3, "undo");
        due("21 by orders", orders(x, "paint 0 as 2; join 0 to 1 times 20"), 21);
        due(x, 16, "count", 6);
        for (int i = 0; i < 16; i++) {
            due(x, 0, "undo");
        }
        due(x, -3, "undo");
        due(x, 2, "of", 0, 0);
        due(x, 0, "count", 2);
    }

    static void p22_whatWasUndoneIsNoAct() {
        sentence("The latest edge(), link(), paint(), dye()");
        SubgraphDesk x = desk(3, 0);
        edges(x, 0, 1, 1, 2);
        due(x, 0, "undo");
        due(x, 1, "count", 6);
        edges(x, 0, 2);
        due(x, 0, "undo");
        due(x, 0, "undo");
        due(x, 0, "count", 2);
        due(x, -3, "undo");
    }

    static void p22_aRefusedActIsNotKept() {
        sentence("-3 there is none");
        SubgraphDesk x = desk(1, 1);
        ask(x, "edge", 0, 0);
        ask(x, "edge", 0, 1);
        ask(x, "link", 0, 0);
        ask(x, "paint", 0, 1);
        ask(x, "dye", 0, 1);
        ask(x, "dye", 0, 7);
        due(x, 0, "count", 6);
        due(x, -3, "undo");
    }

    static void p22_nothingAheadOfNode() {
        clears(2, "node", 1);
    }

    static void p22_nothingAheadOfVertex() {
        clears(2, "vertex", 1);
    }

    static void p22_nothingAheadOfTerms() {
        clears(0, "terms", 0, 0);
    }

    static void p22_nothingAheadOfRow() {
        clears(0, "row");
    }

    static void p22_nothingAheadOfBack() {
        clears(0, "back", 0);
    }

    private static void clears(int answer, String name, int... arguments) {
        sentence("(nothing that was ahead of a node(), vertex(), terms(), row(), back() that was not REFUSED can be undone)");
        SubgraphDesk x = desk(2, 2);
        ask(x, "image", 0);
        edges(x, 0, 1);
        links(x, 0, 1);
        due(x, 2, "count", 6);
        ask(x, "feed", 0, 0, 0, 0, 0);
        taken(x, answer, name, arguments);
        due(x, 0, "count", 6);
        refused(x, -3, "undo");
        ask(x, "paint", 0, 5);
        due(x, 2, "undo");
        due(x, -3, "undo");
    }

    static void p22_theRefusedOnesLeaveIt() {
        sentence("that was not REFUSED can be undone");
        SubgraphDesk x = desk(2, 2);
        edges(x, 0, 1);
        ask(x, "node", 6);
        ask(x, "vertex", 7);
        ask(x, "terms", 3, 0);
        ask(x, "terms", 0, -1);
        ask(x, "row");
        ask(x, "back", 0);
        ask(x, "back", 2);
        due(x, 1, "count", 6);
        due(x, 0, "undo");
        SubgraphDesk full = desk(12, 5);
        edges(full, 0, 1);
        due(full, -5, "node", 1);
        due(full, -5, "vertex", 1);
        due(full, 0, "undo");
    }

    static void p22_lawForceSeenLeaveIt() {
        sentence("It leaves what can be undone.");
        SubgraphDesk x = desk(2, 2);
        edges(x, 0, 1);
        law(x, "costs 2");
        ask(x, "force", 0);
        ask(x, "seen", 1, 1);
        due(x, 1, "count", 6);
        due(x, 0, "undo");
        due(x, 0, "count", 2);
        due(x, 1, "count", 4);
        due(x, 0, "count", 13);
        due(x, 1, "count", 5);
    }

    static void p22_undoLeavesAllElse() {
        sentence("(EDGES, their order, LINKS, COLOURS are as they were)");
        SubgraphDesk x = desk(2, 2);
        String before = board(x);
        edges(x, 0, 1);
        links(x, 0, 1);
        ask(x, "paint", 0, 4);
        ask(x, "dye", 0, 4);
        for (int i = 0; i < 4; i++) {
            ask(x, "undo");
        }
        same("what stands behind all that was undone", board(x), before);
    }
}
