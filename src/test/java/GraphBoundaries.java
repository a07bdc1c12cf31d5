/** Promises 1 to 8: a new object, nodes, vertices, what is told of them, edges in their order, terms. */
final class GraphBoundaries extends TestKit {
    private static final int LEAST = Integer.MIN_VALUE;
    private static final int MOST = Integer.MAX_VALUE;

    /** All 66 edges of twelve nodes, by the lower node, then by the higher one. */
    static void allEdges(SubgraphDesk x) {
        for (int one = 0; one < 12; one++) {
            for (int other = one + 1; other < 12; other++) {
                ask(x, "edge", one, other);
            }
        }
    }

    // ---- promise 1

    static void p01_noGraphAtFirst() {
        sentence("Neither graph nor pattern.");
        SubgraphDesk x = new SubgraphDesk();
        due(x, 0, "count", 0);
        due(x, 0, "count", 2);
        due(x, -1, "of", 0, 0);
        due(x, -1, "came", 0);
        due(x, 0, "kind", -1, 0);
        due(x, 0, "touched");
    }

    static void p01_noPatternAtFirst() {
        sentence("Neither graph nor pattern.");
        SubgraphDesk x = new SubgraphDesk();
        due(x, 0, "count", 1);
        due(x, 0, "count", 3);
        due(x, -1, "at", 0, 0);
        due(x, 1, "ways");
        due(x, 1, "symmetries");
    }

    static void p01_nothingIsKeptAtFirst() {
        sentence("`SubgraphDesk()`: Neither graph nor pattern.");
        SubgraphDesk x = new SubgraphDesk();
        for (int what = 4; what <= 12; what++) {
            due(x, 0, "count", what);
        }
        due(x, 0, "smudges");
        due(x, 0, "status");
        due(x, -1, "fault");
        due(x, -1, "stopped");
        due(x, -1, "drawn", 0, 0);
    }

    static void p01_termsAtFirst() {
        sentence("TERMS: 0 TIME 0 .. 999 (0 at first), 1 SLIPS 0 .. 10 (1), 2 MOOD 0 .. 9 (0).");
        SubgraphDesk x = new SubgraphDesk();
        due(x, 0, "count", 14);
        due(x, 1, "count", 15);
        due(x, 0, "count", 16);
    }

    static void p01_noLawIsInForceAtFirst() {
        sentence("one is in FORCE (NONE at first: no CLAUSE)");
        SubgraphDesk x = desk(1, 1);
        law(x, "costs 7; bars");
        due(x, -1, "count", 13);
        due(x, 1, "lay", 0, 0, 0);
        due(x, 1, "lay", 0, 0, 1);
    }

    static void p01_noEdgeAtFirst() {
        sentence("An EDGE is between two NODES, or none (at first)");
        SubgraphDesk x = desk(12, 0);
        due(x, 0, "count", 2);
        for (int n = 0; n < 12; n++) {
            due(x, 0, "of", n, 1);
            due(x, 0, "of", n, 2);
        }
    }

    static void p01_noLinkAtFirst() {
        sentence("A LINK is between two VERTICES, or none (at first).");
        SubgraphDesk x = desk(0, 5);
        due(x, 0, "count", 3);
        for (int v = 0; v < 5; v++) {
            due(x, 0, "at", v, 1);
            due(x, 0, "at", v, 2);
        }
    }

    static void p01_twoDesksShareNothing() {
        sentence("Neither graph nor pattern.");
        SubgraphDesk x = desk(3, 2);
        edges(x, 0, 1);
        links(x, 0, 1);
        forced(x, "costs 7");
        ask(x, "terms", 0, 9);
        ask(x, "seen", 0, 0);
        ask(x, "days", 1, 1);
        ask(x, "image", 0);
        ask(x, "feed", 1, 2, 3, 4, 5);
        SubgraphDesk y = new SubgraphDesk();
        for (int what : new int[] {0, 1, 2, 3, 4, 5, 6, 7, 14, 16}) {
            due(y, 0, "count", what);
        }
        due(y, -2, "back", 0);
        due(y, -1, "drawn", 0, 0);
        due(x, 3, "count", 0);
        due(x, 20, "count", 7);
    }

    static void p01_theConstantIsBelowAllNumbers() {
        sentence("The constants: `NONE = -1`: There is none.");
        due("NONE", SubgraphDesk.NONE, -1);
    }

    // ---- promise 2

    static void p02_colourIsFrom0To5() {
        sentence("NODES 0 .. 11 (12 at most): COLOUR 0 .. 5.");
        sentence("A NODE: its number. -1; -5.");
        SubgraphDesk x = new SubgraphDesk();
        taken(x, 0, "node", 0);
        taken(x, 1, "node", 5);
        due(x, 0, "of", 0, 0);
        due(x, 5, "of", 1, 0);
        refused(x, -1, "node", -1);
        refused(x, -1, "node", 6);
        refused(x, -1, "node", LEAST);
        refused(x, -1, "node", MOST);
    }

    static void p02_twelveNodesAtMost() {
        sentence("NODES 0 .. 11 (12 at most)");
        SubgraphDesk x = new SubgraphDesk();
        for (int n = 0; n < 12; n++) {
            due(x, n, "node", n % 6);
        }
        refused(x, -5, "node", 0);
        due(x, 12, "count", 0);
        due(x, 5, "of", 11, 0);
    }

    static void p02_aNumberThatCantBeGoesAheadOfNoRoom() {
        sentence("The first of these in that order.");
        SubgraphDesk x = desk(12, 0);
        due(x, -1, "node", 6);
        due(x, -1, "node", -1);
        due(x, -5, "node", 5);
    }

    static void p02_aRefusedNodeTakesNoNumber() {
        sentence("A NODE: its number.");
        SubgraphDesk x = new SubgraphDesk();
        due(x, -1, "node", 6);
        due(x, 0, "node", 3);
        due(x, -1, "node", -1);
        due(x, 1, "node", 4);
    }

    static void p02_aNewNodeHasNoEdges() {
        sentence("A NODE: its number.");
        SubgraphDesk x = desk(2, 0);
        edges(x, 0, 1);
        due(x, 2, "node", 0);
        due(x, 0, "of", 2, 1);
        due(x, 2, "of", 0, 2);
        due(x, 1, "count", 2);
    }

    // ---- promise 3

    static void p03_colourIsFrom0To6() {
        sentence("VERTICES 0 .. 4 (5 at most): COLOUR 0 .. 5, or 6: any.");
        sentence("A VERTEX: its number. -1; -5.");
        SubgraphDesk x = new SubgraphDesk();
        taken(x, 0, "vertex", 0);
        taken(x, 1, "vertex", 5);
        taken(x, 2, "vertex", 6);
        due(x, 0, "at", 0, 0);
        due(x, 6, "at", 2, 0);
        refused(x, -1, "vertex", -1);
        refused(x, -1, "vertex", 7);
        refused(x, -1, "vertex", LEAST);
        refused(x, -1, "vertex", MOST);
    }

    static void p03_fiveVerticesAtMost() {
        sentence("VERTICES 0 .. 4 (5 at most)");
        SubgraphDesk x = new SubgraphDesk();
        for (int v = 0; v < 5; v++) {
            due(x, v, "vertex", v);
        }
        refused(x, -5, "vertex", 0);
        due(x, 5, "count", 1);
        due(x, 4, "at", 4, 0);
    }

    static void p03_aNumberThatCantBeGoesAheadOfNoRoom() {
        sentence("The first of these in that order.");
        SubgraphDesk x = desk(0, 5);
        due(x, -1, "vertex", 7);
        due(x, -1, "vertex", -1);
        due(x, -5, "vertex", 6);
    }

    static void p03_aRefusedVertexTakesNoNumber() {
        sentence("A VERTEX: its number.");
        SubgraphDesk x = new SubgraphDesk();
        due(x, -1, "vertex", 7);
        due(x, 0, "vertex", 3);
        due(x, -1, "vertex", -1);
        due(x, 1, "vertex", 4);
    }

    static void p03_aNewVertexHasNoLinks() {
        sentence("A VERTEX: its number.");
        SubgraphDesk x = desk(0, 2);
        links(x, 0, 1);
        due(x, 2, "vertex", 0);
        due(x, 0, "at", 2, 1);
        due(x, 2, "at", 0, 2);
        due(x, 1, "count", 3);
    }

    // ---- promise 4

    static void p04_whatIsFrom0To2() {
        sentence("Of a NODE COLOUR (what 0), DEGREE (1), the NODES to which it has EDGES, as bits (2). NONE.");
        SubgraphDesk x = desk(4, 0);
        edges(x, 1, 3, 1, 0);
        due(x, 1, "of", 1, 0);
        due(x, 2, "of", 1, 1);
        due(x, 9, "of", 1, 2);
        none(x, "of", 1, -1);
        none(x, "of", 1, 3);
        none(x, "of", 1, LEAST);
        none(x, "of", 1, MOST);
    }

    static void p04_noSuchNode() {
        sentence("the NODES to which it has EDGES, as bits (2). NONE.");
        SubgraphDesk x = desk(3, 0);
        ask(x, "undo");
        for (int what = 0; what <= 2; what++) {
            due(x, what == 0 ? 1 : 0, "of", 2, what);
            none(x, "of", 3, what);
            none(x, "of", -1, what);
        }
        due(x, -1, "of", LEAST, 0);
        due(x, -1, "of", MOST, 0);
        due(new SubgraphDesk(), -1, "of", 0, 0);
    }

    static void p04_degreeIsFrom0To11() {
        sentence("DEGREE of a NODE: how many EDGES it has.");
        SubgraphDesk x = desk(12, 0);
        due(x, 0, "of", 0, 1);
        for (int n = 1; n < 12; n++) {
            ask(x, "edge", n, 0);
            due(x, n, "of", 0, 1);
        }
        due(x, 4094, "of", 0, 2);
        due(x, 1, "of", 11, 1);
        due(x, 1, "of", 11, 2);
        ask(x, "edge", 0, 11);
        due(x, 10, "of", 0, 1);
        due(x, 2046, "of", 0, 2);
        due(x, 0, "of", 11, 2);
    }

    static void p04_aFullGraph() {
        sentence("Sets are told as bits.");
        SubgraphDesk x = desk(12, 0);
        allEdges(x);
        for (int n = 0; n < 12; n++) {
            due(x, 11, "of", n, 1);
            due(x, 4095 - (1 << n), "of", n, 2);
        }
    }

    // ---- promise 5

    static void p05_whatIsFrom0To3() {
        sentence("Of a VERTEX COLOUR (what 0), how many LINKS (1), the VERTICES LINKED to it, as bits (2), "
            + "TWINS, as bits (3). NONE.");
        SubgraphDesk x = desk(0, 4);
        links(x, 1, 3, 1, 0);
        due(x, 1, "at", 1, 0);
        due(x, 2, "at", 1, 1);
        due(x, 9, "at", 1, 2);
        due(x, 0, "at", 1, 3);
        none(x, "at", 1, -1);
        none(x, "at", 1, 4);
        none(x, "at", 1, LEAST);
        none(x, "at", 1, MOST);
    }

    static void p05_noSuchVertex() {
        sentence("TWINS, as bits (3). NONE.");
        SubgraphDesk x = desk(0, 3);
        ask(x, "undo");
        for (int what = 0; what <= 3; what++) {
            due(x, new int[] {1, 0, 0, 3}[what], "at", 2, what);
            none(x, "at", 3, what);
            none(x, "at", -1, what);
        }
        due(x, -1, "at", LEAST, 0);
        due(x, -1, "at", MOST, 0);
        due(new SubgraphDesk(), -1, "at", 0, 0);
    }

    static void p05_linksAreFrom0To4() {
        sentence("how many LINKS (1), the VERTICES LINKED to it, as bits (2)");
        SubgraphDesk x = desk(0, 5);
        due(x, 0, "at", 4, 1);
        for (int v = 0; v < 4; v++) {
            ask(x, "link", v, 4);
            due(x, v + 1, "at", 4, 1);
        }
        due(x, 15, "at", 4, 2);
        due(x, 16, "at", 0, 2);
        ask(x, "link", 4, 0);
        due(x, 3, "at", 4, 1);
        due(x, 14, "at", 4, 2);
        due(x, 0, "at", 0, 2);
    }

    static void p05_twinsAreOthers() {
        sentence("TWINS of a VERTEX: the others of the same COLOUR that, both of them aside, have the same LINKS.");
        SubgraphDesk x = desk(0, 1);
        due(x, 0, "at", 0, 3);
        for (int v = 1; v < 5; v++) {
            ask(x, "vertex", 1);
        }
        for (int v = 0; v < 5; v++) {
            due(x, 31 - (1 << v), "at", v, 3);
        }
    }

    static void p05_twinsMayBeLinkedOrNot() {
        sentence("both of them aside, have the same LINKS");
        SubgraphDesk x = desk(0, 3);
        links(x, 0, 2, 1, 2);
        due(x, 2, "at", 0, 3);
        due(x, 1, "at", 1, 3);
        due(x, 0, "at", 2, 3);
        links(x, 0, 1);
        due("all three are linked", ask(x, "at", 0, 3), 2 + 4);
        due(x, 1 + 4, "at", 1, 3);
        due(x, 1 + 2, "at", 2, 3);
    }

    static void p05_oneLinkMoreIsNoTwin() {
        sentence("both of them aside, have the same LINKS");
        SubgraphDesk x = desk(0, 4);
        links(x, 0, 2, 1, 2, 1, 3);
        due(x, 0, "at", 0, 3);
        due(x, 0, "at", 1, 3);
        ask(x, "link", 0, 3);
        due(x, 2, "at", 0, 3);
        due(x, 8, "at", 2, 3);
    }

    static void p05_anyIsAColourOfItsOwnForTwins() {
        sentence("the others of the same COLOUR");
        SubgraphDesk x = new SubgraphDesk();
        for (int colour : new int[] {6, 5, 6, 5, 0}) {
            ask(x, "vertex", colour);
        }
        due(x, 4, "at", 0, 3);
        due(x, 8, "at", 1, 3);
        due(x, 0, "at", 4, 3);
    }

    // ---- promise 6

    static void p06_whatIs0Or1() {
        sentence("What it COSTS to lay a VERTEX on a NODE (what 0), whether it MAY lie there (1: 1, 0). NONE.");
        SubgraphDesk x = desk(2, 2);
        due(x, 1, "lay", 1, 1, 0);
        due(x, 1, "lay", 1, 1, 1);
        none(x, "lay", 1, 1, -1);
        none(x, "lay", 1, 1, 2);
        due(x, -1, "lay", 1, 1, LEAST);
        due(x, -1, "lay", 1, 1, MOST);
    }

    static void p06_noSuchVertexOrNode() {
        sentence("whether it MAY lie there (1: 1, 0). NONE.");
        SubgraphDesk x = desk(2, 2);
        for (int what = 0; what <= 1; what++) {
            due(x, -1, "lay", 2, 1, what);
            due(x, -1, "lay", -1, 1, what);
            due(x, -1, "lay", 1, 2, what);
            due(x, -1, "lay", 1, -1, what);
        }
        none(x, "lay", 2, 2, 0);
        due(x, -1, "lay", MOST, MOST, 0);
        due(x, -1, "lay", LEAST, LEAST, 1);
        due(desk(1, 0), -1, "lay", 0, 0, 0);
        due(desk(0, 1), -1, "lay", 0, 0, 0);
    }

    static void p06_theLastVertexOnTheLastNode() {
        sentence("What it COSTS to lay a VERTEX on a NODE (what 0), whether it MAY lie there (1: 1, 0).");
        SubgraphDesk x = desk(12, 5);
        forced(x, "costs 10 * vertex + node; bars if vertex = 4 and node = 11");
        due(x, 51, "lay", 4, 11, 0);
        due(x, 0, "lay", 4, 11, 1);
        due(x, 50, "lay", 4, 10, 0);
        due(x, 1, "lay", 4, 10, 1);
        due(x, 1, "lay", 3, 11, 1);
    }

    static void p06_costsFrom0To99ElseTheNearest() {
        sentence("To lay a VERTEX on a NODE COSTS 0 .. 99 as the last \"costs\" that HOLDS tells (else the nearest), 1 without");
        SubgraphDesk x = desk(5, 1);
        due(x, 1, "lay", 0, 0, 0);
        forced(x, "costs 98 + node");
        due(x, 98, "lay", 0, 0, 0);
        due(x, 99, "lay", 0, 1, 0);
        due(x, 99, "lay", 0, 2, 0);
        forced(x, "costs node - 3");
        due(x, 0, "lay", 0, 0, 0);
        due(x, 0, "lay", 0, 2, 0);
        due(x, 0, "lay", 0, 3, 0);
        due(x, 1, "lay", 0, 4, 0);
    }

    static void p06_theNearestOfTheMostThatASumCanBe() {
        sentence("(else the nearest)");
        SubgraphDesk x = desk(2, 1);
        forced(x, "costs 1000 * 1000 * 1000 * [1 - 2 * node]");
        due(x, 99, "lay", 0, 0, 0);
        due(x, 0, "lay", 0, 1, 0);
    }

    static void p06_eachColourOnItsOwnAndAnyOnAll() {
        sentence("A VERTEX MAY lie on a NODE, if its COLOUR is that of the NODE or any, and it is not BARRED.");
        SubgraphDesk x = new SubgraphDesk();
        for (int colour = 0; colour < 6; colour++) {
            ask(x, "node", colour);
        }
        for (int colour : new int[] {0, 5, 6}) {
            ask(x, "vertex", colour);
        }
        for (int n = 0; n < 6; n++) {
            due(x, n == 0 ? 1 : 0, "lay", 0, n, 1);
            due(x, n == 5 ? 1 : 0, "lay", 1, n, 1);
            due(x, 1, "lay", 2, n, 1);
        }
    }

    static void p06_barredEvenOfAnyColour() {
        sentence("it is BARRED, if \"bars\" HOLDS.");
        SubgraphDesk x = desk(2, 1);
        ask(x, "dye", 0, 6);
        forced(x, "bars if node = 1");
        due(x, 1, "lay", 0, 0, 1);
        due(x, 0, "lay", 0, 1, 1);
        due(x, 1, "lay", 0, 1, 0);
        ask(x, "force", -1);
        due(x, 1, "lay", 0, 1, 1);
    }

    // ---- promise 7

    static void p07_numberedFrom0ToTheLast() {
        sentence("The i-th EDGE by the order in which they came: 12 times the lower NODE and the higher one. NONE.");
        SubgraphDesk x = desk(3, 0);
        none(x, "came", 0);
        none(x, "came", -1);
        edges(x, 2, 1, 0, 2);
        due(x, 14, "came", 0);
        due(x, 2, "came", 1);
        none(x, "came", 2);
        none(x, "came", -1);
        due(x, -1, "came", LEAST);
        due(x, -1, "came", MOST);
    }

    static void p07_theLowestAndTheHighestEdge() {
        sentence("12 times the lower NODE and the higher one");
        SubgraphDesk x = desk(12, 0);
        edges(x, 1, 0, 11, 10, 0, 11);
        due(x, 1, "came", 0);
        due(x, 131, "came", 1);
        due(x, 11, "came", 2);
    }

    static void p07_aFullGraphHas66Edges() {
        sentence("EDGES have the order in which they came.");
        SubgraphDesk x = desk(12, 0);
        allEdges(x);
        due(x, 66, "count", 2);
        due(x, 1, "came", 0);
        due(x, 11, "came", 10);
        due(x, 14, "came", 11);
        due(x, 131, "came", 65);
        due(x, -1, "came", 66);
        ask(x, "edge", 0, 1);
        due(x, 2, "came", 0);
        due(x, 131, "came", 64);
        due(x, -1, "came", 65);
        ask(x, "edge", 1, 0);
        due(x, 1, "came", 65);
        due(x, -1, "came", 66);
    }

    static void p07_theOthersCloseUpWhenOneIsNoMore() {
        sentence("EDGES have the order in which they came.");
        SubgraphDesk x = desk(4, 0);
        edges(x, 0, 1, 1, 2, 2, 3, 3, 0);
        ask(x, "edge", 0, 3);
        due(x, 27, "came", 2);
        due(x, -1, "came", 3);
        ask(x, "edge", 1, 0);
        due(x, 14, "came", 0);
        due(x, 27, "came", 1);
        due(x, -1, "came", 2);
        edges(x, 1, 2, 2, 3);
        due(x, 0, "count", 2);
        due(x, -1, "came", 0);
    }

    // ---- promise 8

    static void p08_timeIsFrom0To999() {
        sentence("0 TIME 0 .. 999 (0 at first)");
        bounds(0, 0, 999);
    }

    static void p08_slipsAreFrom0To10() {
        sentence("1 SLIPS 0 .. 10 (1)");
        bounds(1, 1, 10);
    }

    static void p08_moodIsFrom0To9() {
        sentence("2 MOOD 0 .. 9 (0)");
        bounds(2, 0, 9);
    }

    private static void bounds(int what, int atFirst, int most) {
        sentence("A TERM: what it was. -1.");
        SubgraphDesk x = new SubgraphDesk();
        taken(x, atFirst, "terms", what, most);
        refused(x, -1, "terms", what, most + 1);
        refused(x, -1, "terms", what, -1);
        refused(x, -1, "terms", what, MOST);
        refused(x, -1, "terms", what, LEAST);
        taken(x, most, "terms", what, 0);
        taken(x, 0, "terms", what, 0);
        due(x, 0, "count", 14 + what);
        for (int other = 0; other < 3; other++) {
            due(x, other == what ? 0 : other == 1 ? 1 : 0, "count", 14 + other);
        }
    }

    static void p08_thereAreThreeTerms() {
        sentence("A TERM: what it was. -1.");
        SubgraphDesk x = new SubgraphDesk();
        refused(x, -1, "terms", -1, 0);
        refused(x, -1, "terms", 3, 0);
        refused(x, -1, "terms", LEAST, 0);
        refused(x, -1, "terms", MOST, 0);
    }

    static void p08_nothingAheadOfItCanBeUndone() {
        sentence("nothing that was ahead of a node(), vertex(), terms(), row(), back() that was not REFUSED can be undone");
        SubgraphDesk x = desk(2, 0);
        edges(x, 0, 1);
        due(x, -1, "terms", 0, 1000);
        due(x, 1, "count", 6);
        due(x, 0, "terms", 0, 0);
        due(x, 0, "count", 6);
        refused(x, -3, "undo");
    }
}
