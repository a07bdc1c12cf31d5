/** Promises 29 to 32: candidates, steps, what is found within so many, kinds of nodes. */
final class SearchBoundaries extends TestKit {
    private static final int LEAST = Integer.MIN_VALUE;
    private static final int MOST = Integer.MAX_VALUE;

    /** Each row: colours of nodes, edges, colours of vertices, links; as in "1 2 2", "0-1 0-2", "1 6", "0-1". */
    private static SubgraphDesk desk(String colours, String edges, String hues, String links) {
        SubgraphDesk x = new SubgraphDesk();
        for (String colour : colours.split(" ")) {
            ask(x, "node", Integer.parseInt(colour));
        }
        for (String hue : hues.split(" ")) {
            ask(x, "vertex", Integer.parseInt(hue));
        }
        pairs(x, "edge", edges);
        pairs(x, "link", links);
        return x;
    }

    private static void pairs(SubgraphDesk x, String call, String pairs) {
        for (String pair : pairs.isEmpty() ? new String[0] : pairs.split(" ")) {
            String[] ends = pair.split("-");
            ask(x, call, Integer.parseInt(ends[0]), Integer.parseInt(ends[1]));
        }
    }

    /** The candidates of all vertices behind n passes. */
    private static void candidates(SubgraphDesk x, int n, int... sets) {
        for (int v = 0; v < sets.length; v++) {
            due(x, sets[v], "candidates", v, n);
        }
    }

    /** Each is asked behind another thing, so that none lives on what was left there. */
    private static void steps(SubgraphDesk x, int search0, int search1, int search2) {
        ask(x, "candidates", 0, 0);
        due(x, search2, "steps", 2);
        due(x, search0, "steps", 0);
        due(x, search2, "steps", 2);
        ask(x, "candidates", 0, 1);
        due(x, search1, "steps", 1);
        due(x, search0, "steps", 0);
        ask(x, "candidates", 0, 9);
        due(x, search1, "steps", 1);
    }

    /** How many ways are laid behind n steps: all those that are laid at these steps. */
    private static void laidAt(SubgraphDesk x, int... at) {
        int laid = 0;
        for (int n = 0; n <= at[at.length - 1] + 1; n++) {
            if (laid < at.length && at[laid] == n) {
                laid++;
            }
            due(x, laid, "within", n);
        }
        due(x, at.length, "within", 9999);
    }

    private static SubgraphDesk longShrinking() {
        return desk("1 2 2 1 2 2 2 2 2 1 1",
            "0-3 0-7 0-9 1-5 1-10 2-5 2-6 2-7 3-4 3-10 4-6 4-9 5-10 6-9 7-8 7-9 7-10 8-9", "2 2 1 1", "0-1 0-2 0-3 1-2 2-3");
    }

    // ---- promise 29

    static void p29_passesFrom0To9() {
        sentence("CANDIDATES of a VERTEX behind n 0 .. 9 PASSES, as bits. NONE.");
        SubgraphDesk x = desk(3, 2);
        edges(x, 0, 1);
        links(x, 0, 1);
        due(x, 3, "candidates", 0, 0);
        due(x, 3, "candidates", 1, 9);
        none(x, "candidates", 0, 10);
        none(x, "candidates", 0, -1);
        due(x, -1, "candidates", 0, MOST);
        due(x, -1, "candidates", 0, LEAST);
    }

    static void p29_noSuchVertex() {
        sentence("CANDIDATES of a VERTEX behind n 0 .. 9 PASSES, as bits. NONE.");
        SubgraphDesk x = desk(3, 2);
        none(x, "candidates", 2, 0);
        none(x, "candidates", -1, 0);
        due(x, -1, "candidates", MOST, 0);
        due(x, -1, "candidates", LEAST, 0);
        due(new SubgraphDesk(), -1, "candidates", 0, 0);
    }

    static void p29_atFirstAsManyEdgesAsLinksAtLeast() {
        sentence("CANDIDATES of a VERTEX behind n PASSES: at first NODES on which it MAY lie and that have as many EDGES as it has LINKS at least.");
        SubgraphDesk x = desk(5, 4);
        edges(x, 0, 1, 0, 2, 0, 3, 1, 2);
        candidates(x, 0, 31, 31, 31, 31);
        links(x, 0, 1);
        candidates(x, 0, 15, 15, 31, 31);
        links(x, 0, 2);
        candidates(x, 0, 7, 15, 15, 31);
        links(x, 0, 3);
        candidates(x, 0, 1, 15, 15, 15);
        ask(x, "edge", 0, 3);
        candidates(x, 0, 0, 7, 7, 7);
    }

    static void p29_atFirstWhereItMayLie() {
        sentence("at first NODES on which it MAY lie");
        SubgraphDesk x = desk("0 1 5 1", "", "1 6 5 0", "");
        candidates(x, 0, 10, 15, 4, 1);
        forced(x, "bars if node = 3; bars if vertex = 2");
        candidates(x, 0, 2, 7, 0, 1);
        candidates(x, 9, 2, 7, 0, 1);
    }

    static void p29_fullAndEmptySets() {
        sentence("CANDIDATES of a VERTEX behind n 0 .. 9 PASSES, as bits.");
        SubgraphDesk x = desk(12, 5);
        candidates(x, 0, 4095, 4095, 4095, 4095, 4095);
        candidates(x, 9, 4095, 4095, 4095, 4095, 4095);
        GraphBoundaries.allEdges(x);
        links(x, 0, 1, 0, 2, 0, 3, 0, 4, 1, 2, 1, 3, 1, 4, 2, 3, 2, 4, 3, 4);
        candidates(x, 9, 4095, 4095, 4095, 4095, 4095);
        candidates(desk(0, 2), 9, 0, 0);
    }

    static void p29_eachPassThereAndBack() {
        sentence("A PASS: the first, the third and so on take the VERTICES of that ROW from its end, the others from its beginning");
        SubgraphDesk x = longShrinking();
        int[][] behind = {
            {244, 240, 240, 240, 240, 176, 176, 176, 176, 144},
            {502, 498, 338, 338, 338, 338, 322, 322, 322, 322},
            {1545, 1545, 1545, 1544, 1544, 1544, 1544, 1536, 1536, 1536},
            {1545, 1545, 1545, 1545, 1033, 1033, 1033, 1033, 9, 9}
        };
        for (int n = 0; n <= 9; n++) {
            candidates(x, n, behind[0][n], behind[1][n], behind[2][n], behind[3][n]);
        }
    }

    static void p29_untilNothingGoes() {
        sentence("A PASS: the first, the third and so on take the VERTICES of that ROW from its end");
        SubgraphDesk x = desk("2 2 1 1 1 1 2 1", "0-1 0-3 1-4 1-6 1-7 2-3 2-4 2-7 3-5 4-7 5-6", "2 6 1 1", "0-1 0-2 1-2 1-3");
        candidates(x, 0, 67, 158, 188, 188);
        candidates(x, 1, 67, 154, 184, 188);
        candidates(x, 2, 67, 154, 176, 180);
        candidates(x, 3, 66, 154, 176, 180);
        candidates(x, 4, 66, 146, 144, 148);
        candidates(x, 5, 2, 146, 144, 148);
        for (int n = 6; n <= 9; n++) {
            candidates(x, n, 2, 144, 144, 148);
        }
    }

    static void p29_oneThatGoesAtOnceTakesOthersAlong() {
        sentence("of each VERTEX those CANDIDATES go that for some VERTEX LINKED to it have no EDGE to a CANDIDATE of that.");
        SubgraphDesk x = desk("2 3 1", "0-1 0-2 1-2", "3 1 3", "0-1 0-2 1-2");
        candidates(x, 0, 2, 4, 2);
        // 2 on 1 has no edge to 0 on 1; 1 has none to 2 then; 0 neither
        candidates(x, 1, 0, 0, 0);
        SubgraphDesk y = desk("1 2 2", "0-1 0-2", "1 1 6", "0-1 0-2");
        candidates(y, 0, 1, 1, 7);
        // 2 first, while 0 is on 0; 1 on 0 goes by 0 on 0; 0 goes by 1, that is on none
        candidates(y, 1, 0, 0, 6);
        candidates(y, 2, 0, 0, 0);
    }

    static void p29_theOneWithFewestIsFirstTheLowestOfThese() {
        sentence("the one with fewest CANDIDATES at first (the lowest) is first");
        SubgraphDesk x = desk("1 3 2", "0-1 1-2", "3 3 2", "0-1 1-2");
        candidates(x, 0, 2, 2, 4);
        // 0, 1, 2: 2 is asked first, while 1 is on 1
        candidates(x, 1, 0, 0, 4);
        SubgraphDesk y = desk("2 2 1", "0-1 0-2", "1 3 6", "0-2 1-2");
        candidates(y, 0, 4, 0, 1);
        // 1, 2, 0: 0 is asked first, while 2 is on 0
        candidates(y, 1, 4, 0, 0);
    }

    static void p29_behindEachThoseLinkedToItRising() {
        sentence("behind each of the row those LINKED to it that are not in it, rising");
        SubgraphDesk x = desk("2 3 1", "0-1 0-2 1-2", "3 1 3", "0-1 0-2 1-2");
        // 0, 1, 2: 2 is asked first; if 1 were, it would stay on 2
        candidates(x, 1, 0, 0, 0);
        SubgraphDesk y = desk("1 3 2", "0-1 0-2 1-2", "1 6 2 1", "0-1 0-3 1-2 2-3");
        candidates(y, 0, 1, 7, 4, 1);
        // 0, then 1, 3 behind it, then 2 behind 1: 2 is asked first, while 3 is on 0
        candidates(y, 1, 0, 2, 4, 0);
        candidates(y, 2, 0, 0, 0, 0);
    }

    static void p29_ifNoneIsLeftAgainTheOneWithFewest() {
        sentence("if none is left so, again the one with fewest of those that are not in it.");
        SubgraphDesk x = desk("1 2 2", "0-1 0-2", "1 6 6 1", "1-2 2-3");
        candidates(x, 0, 1, 7, 1, 1);
        // 0 alone, then 2, 1, 3: 3 is asked first, 1 is asked while 2 is on 0
        candidates(x, 1, 1, 6, 0, 0);
        candidates(x, 2, 1, 0, 0, 0);
        SubgraphDesk y = desk("2 2 2", "1-2", "6 1 1", "0-2");
        candidates(y, 0, 6, 0, 0);
        // 1 alone, then 2, 0: 0 goes by 2, that is on none
        candidates(y, 1, 0, 0, 0);
    }

    static void p29_oneRowForAllPasses() {
        sentence("A ROW of all VERTICES (one for all PASSES)");
        SubgraphDesk x = desk("1 3 1 2", "0-2 0-3 1-2 1-3", "2 6 6 1 6", "0-2 0-3 1-2 1-4 3-4");
        candidates(x, 0, 8, 15, 15, 5, 15);
        candidates(x, 1, 8, 15, 3, 1, 15);
        candidates(x, 2, 8, 12, 3, 1, 0);
        candidates(x, 3, 0, 0, 0, 0, 0);
    }

    // ---- promise 30

    static void p30_searchesFrom0To2() {
        sentence("STEPS of a search 0 .. 2. NONE.");
        SubgraphDesk x = desk(3, 2);
        edges(x, 0, 1);
        links(x, 0, 1);
        steps(x, 3 + 2, 4, 4);
        none(x, "steps", 3);
        none(x, "steps", -1);
        due(x, -1, "steps", MOST);
        due(x, -1, "steps", LEAST);
    }

    static void p30_withoutVerticesThereAreNone() {
        sentence("(Without VERTICES there are no STEPS, and one WAY is laid.)");
        steps(new SubgraphDesk(), 0, 0, 0);
        steps(desk(12, 0), 0, 0, 0);
    }

    static void p30_withoutNodesThereAreNone() {
        sentence("STEPS of a search: a STEP is a VERTEX laid on a NODE that is not taken");
        steps(desk(0, 1), 0, 0, 0);
        steps(desk(0, 5), 0, 0, 0);
        steps(desk(1, 1), 1, 1, 1);
        steps(desk(1, 2), 1, 1, 1);
    }

    static void p30_oneVertexOnEachNode() {
        sentence("a STEP is a VERTEX laid on a NODE that is not taken");
        SubgraphDesk x = desk(12, 1);
        steps(x, 12, 12, 12);
        ask(x, "paint", 0, 0);
        steps(x, 11, 11, 11);
    }

    static void p30_theMost() {
        sentence("all are tried, rising; behind each one goes on with the next VERTEX, then it is taken up again.");
        int most = 12 + 132 + 1320 + 11880 + 95040;
        steps(desk(12, 5), most, most, most);
        SubgraphDesk x = desk(12, 5);
        GraphBoundaries.allEdges(x);
        links(x, 0, 1, 0, 2, 0, 3, 0, 4, 1, 2, 1, 3, 1, 4, 2, 3, 2, 4, 3, 4);
        steps(x, most, most, most);
    }

    static void p30_anEdgeToAllThatLie() {
        sentence("that has an EDGE to those of all VERTICES LINKED to it that lie");
        SubgraphDesk x = desk("1 1 1", "0-1 0-2", "6 1 6", "0-2");
        steps(x, 13, 13, 11);
        laidAt(x, 3, 5, 8, 11);
        SubgraphDesk y = desk(4, 3);
        edges(y, 0, 1, 1, 2, 2, 3);
        links(y, 0, 1, 1, 2, 2, 0);
        due("no triangle: 4 + 6 + none", ask(y, "steps", 0), 10);
    }

    static void p30_search0OnAllWhereTheyMayLie() {
        sentence("Search 0: VERTICES rising, on all NODES on which they MAY lie.");
        SubgraphDesk x = desk("1 2 1 1", "0-1", "1 2", "0-1");
        steps(x, 3 + 1, 2, 2);
        forced(x, "bars if node = 3");
        steps(x, 2 + 1, 2, 2);
        forced(x, "bars if vertex = 1");
        steps(x, 3, 0, 0);
    }

    static void p30_search1And2BehindFourPasses() {
        sentence("Search 1: rising, on CANDIDATES behind 4 PASSES.");
        sentence("Search 2: on these");
        steps(longShrinking(), 26, 13, 9);
        steps(desk("2 2 1 1 1 1 2 1", "0-1 0-3 1-4 1-6 1-7 2-3 2-4 2-7 3-5 4-7 5-6", "2 6 1 1", "0-1 0-2 1-2 1-3"), 15, 9, 8);
        steps(desk("1 1 1 2 2 2", "0-1 0-3 0-5 1-3 1-5 2-3 2-4 4-5", "6 6 2 1", "0-1 1-2 1-3 2-3"), 39, 22, 12);
    }

    static void p30_search2TakesTheOneOfFewestNodesThen() {
        sentence("each time that VERTEX of those that do not lie is next that could be laid on fewest NODES then; the lowest.");
        SubgraphDesk x = desk("2 1 1", "0-2", "6 1 6", "0-2");
        steps(x, 9, 7, 6);
        SubgraphDesk taken = desk("2 1 2 1", "0-2 2-3", "1 2 1", "");
        steps(taken, 10, 10, 8);
        laidAt(taken, 3, 4, 7, 8);
        SubgraphDesk one = desk("1 3", "", "6 1", "");
        steps(one, 3, 3, 2);
        SubgraphDesk wide = desk(12, 2);
        forced(wide, "bars if vertex = 1 and node = 11");
        steps(wide, 12 + 11 * 10 + 11, 12 + 11 * 10 + 11, 11 + 11 * 11);
        forced(wide, "bars if vertex = 0 and node = 11");
        steps(wide, 11 + 11 * 11, 11 + 11 * 11, 11 + 11 * 11);
    }

    static void p30_theLowestOfThose() {
        sentence("could be laid on fewest NODES then; the lowest.");
        SubgraphDesk x = desk("1 1 2 2", "", "2 1 1", "");
        steps(x, 10, 10, 10);
        laidAt(x, 3, 5, 8, 10);
    }

    // ---- promise 31

    static void p31_stepsFrom0To9999() {
        sentence("WITHIN n 0 .. 9,999 STEPS. NONE.");
        SubgraphDesk x = desk(2, 1);
        due(x, 0, "within", 0);
        due(x, 1, "within", 1);
        due(x, 2, "within", 2);
        due(x, 2, "within", 3);
        due(x, 2, "within", 9999);
        none(x, "within", 10000);
        none(x, "within", -1);
        due(x, -1, "within", MOST);
        due(x, -1, "within", LEAST);
    }

    static void p31_withoutVerticesOneWayIsLaid() {
        sentence("(Without VERTICES there are no STEPS, and one WAY is laid.)");
        SubgraphDesk x = new SubgraphDesk();
        due(x, 1, "within", 0);
        due(x, 1, "within", 9999);
        due(x, -1, "within", 10000);
        due(x, -1, "within", -1);
        due(desk(3, 0), 1, "within", 0);
        due(desk(0, 1), 0, "within", 0);
        due(desk(0, 1), 0, "within", 9999);
    }

    static void p31_laidWholly() {
        sentence("WITHIN n STEPS: how many WAYS Search 2 has laid wholly behind its first n STEPS.");
        SubgraphDesk x = desk("1 1 1", "0-1 0-2", "1 6", "0-1");
        laidAt(x, 2, 3, 5, 7);
        SubgraphDesk y = desk(2, 3);
        due("two of three lie", ask(y, "within", 9999), 0);
        due(y, -1, "within", -1);
        due("2 + 2", ask(y, "steps", 2), 4);
    }

    static void p31_oneVertexOnEachNode() {
        sentence("WITHIN n STEPS: how many WAYS Search 2 has laid wholly behind its first n STEPS.");
        SubgraphDesk x = desk(12, 1);
        for (int n = 0; n <= 12; n++) {
            due(x, n, "within", n);
        }
        due(x, 12, "within", 13);
        due(x, 12, "within", 9999);
    }

    static void p31_moreStepsThanCanBeAsked() {
        sentence("WITHIN n 0 .. 9,999 STEPS.");
        SubgraphDesk x = desk(12, 5);
        // 9,032 steps with 0 on 0; then 1 + 821, 1 + 82, 1 + 6 * 9, 1 and six ways more
        due(x, 7920, "within", 9032);
        due(x, 7920 + 720 + 72 + 48 + 6, "within", 9999);
        due(x, 7920 + 720 + 72 + 48 + 5, "within", 9998);
    }

    // ---- promise 32

    static void p32_roundsFrom0To12() {
        sentence("KIND of a NODE behind n 0 .. 12 ROUNDS; how many KINDS there are (node NONE). NONE.");
        SubgraphDesk x = desk(3, 0);
        edges(x, 0, 1);
        due(x, 1, "kind", -1, 0);
        due(x, 2, "kind", -1, 12);
        due(x, 1, "kind", 2, 12);
        none(x, "kind", -1, 13);
        none(x, "kind", 0, 13);
        none(x, "kind", -1, -1);
        none(x, "kind", 0, -1);
        due(x, -1, "kind", 0, MOST);
        due(x, -1, "kind", 0, LEAST);
    }

    static void p32_noSuchNode() {
        sentence("how many KINDS there are (node NONE). NONE.");
        SubgraphDesk x = desk(3, 0);
        none(x, "kind", 3, 0);
        none(x, "kind", -2, 0);
        due(x, 0, "kind", 2, 0);
        due(x, -1, "kind", MOST, 0);
        due(x, -1, "kind", LEAST, 0);
    }

    static void p32_noNodesNoKinds() {
        sentence("how many KINDS there are (node NONE)");
        SubgraphDesk x = new SubgraphDesk();
        due(x, 0, "kind", -1, 0);
        due(x, 0, "kind", -1, 12);
        due(x, -1, "kind", 0, 0);
        due(x, -1, "kind", -1, 13);
    }

    static void p32_byColourAtFirst() {
        sentence("at first NODES of one COLOUR are of one KIND");
        SubgraphDesk x = desk("5 0 5 3 0 1 2 4", "0-1 0-2", "6", "");
        int[] kinds = {0, 1, 0, 2, 1, 3, 4, 5};
        for (int n = 0; n < kinds.length; n++) {
            due(x, kinds[n], "kind", n, 0);
        }
        due(x, 6, "kind", -1, 0);
    }

    static void p32_numberedAsTheyFirstCome() {
        sentence("KINDS are numbered as they first come, by NODES rising.");
        SubgraphDesk x = desk(12, 0);
        for (int n = 0; n < 11; n++) {
            ask(x, "edge", n, n + 1);
        }
        for (int round = 0; round <= 12; round++) {
            due(x, Math.min(round + 1, 6), "kind", -1, round);
            due(x, 0, "kind", 0, round);
            due(x, 0, "kind", 11, round);
            due(x, Math.min(round, 5), "kind", 6, round);
        }
        due(x, 2, "kind", 9, 3);
        due(x, 3, "kind", 8, 3);
        due(x, 3, "kind", 7, 3);
    }

    static void p32_asManyEdgesToEachKind() {
        sentence("each ROUND then those that were of one KIND and have to each KIND as many EDGES");
        SubgraphDesk x = desk("1 1 1 2 2", "0-3 1-3 1-4 2-4", "6", "");
        due("0, 2: one edge; 1: two; 3, 4", ask(x, "kind", -1, 1), 3);
        due(x, 0, "kind", 2, 1);
        due(x, 1, "kind", 1, 1);
        due(x, 2, "kind", 4, 1);
        due(x, 3, "kind", -1, 12);
        SubgraphDesk rings = desk(9, 0);
        edges(rings, 0, 1, 1, 2, 2, 0, 3, 4, 4, 5, 5, 6, 6, 3);
        due("rings of three and of four are alike, 7 and 8 not", ask(rings, "kind", -1, 12), 2);
    }

    static void p32_elevenRoundsUntilAllDiffer() {
        sentence("KIND of a NODE behind n ROUNDS");
        SubgraphDesk x = desk("1 1 1 1 1 1 1 1 1 1 1 1", "0-2 0-6 0-8 0-10 1-3 1-5 1-8 1-10 2-4 2-8 2-11 3-6 3-8 3-10 4-5 4-9 "
            + "4-10 5-7 5-8 6-8 6-9 7-8 7-9 7-11 8-11 9-11", "6", "");
        for (int round = 0; round <= 12; round++) {
            due(x, Math.min(round + 1, 12), "kind", -1, round);
        }
        int[] behindFive = {0, 0, 1, 2, 3, 1, 2, 0, 4, 5, 5, 0};
        for (int n = 0; n < 12; n++) {
            due(x, behindFive[n], "kind", n, 5);
            due(x, n == 11 ? 7 : n, "kind", n, 10);
            due(x, n, "kind", n, 11);
        }
    }
}
