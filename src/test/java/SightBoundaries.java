/** Promises 35 to 39: what was seen, ways that fit it, the vertex to look at, how likely few slip. */
final class SightBoundaries extends TestKit {
    private static final int LEAST = Integer.MIN_VALUE;
    private static final int MOST = Integer.MAX_VALUE;
    private static final long CERTAIN = 1_000_000_000_000L;

    /** A path of nodes 0 - 1 - 2 - 3 and a pattern of two linked vertices: six ways. */
    private static SubgraphDesk path() {
        SubgraphDesk x = desk(4, 2);
        edges(x, 0, 1, 1, 2, 2, 3);
        links(x, 0, 1);
        return x;
    }

    // ---- promise 35

    static void p35_howOftenThereWas() {
        sentence("SEEN: how often there was. -2; -5. It leaves what can be undone.");
        SubgraphDesk x = path();
        taken(x, 1, "seen", 0, 0);
        taken(x, 2, "seen", 1, 3);
        due(x, 2, "count", 4);
        due("the last vertex on the last node twice", ask(x, "seen", 1, 3), 3);
    }

    static void p35_noSuchVertexOrNode() {
        sentence("SEEN: how often there was. -2; -5.");
        SubgraphDesk x = path();
        refused(x, -2, "seen", 2, 0);
        refused(x, -2, "seen", -1, 0);
        refused(x, -2, "seen", 0, 4);
        due(x, -2, "seen", 0, -1);
        due(x, -2, "seen", MOST, 0);
        due(x, -2, "seen", 0, LEAST);
        due(desk(1, 0), -2, "seen", 0, 0);
        due(desk(0, 1), -2, "seen", 0, 0);
        due(x, 0, "count", 4);
    }

    static void p35_sixAtMost() {
        sentence("SEEN, 6 at most: a VERTEX lies on a NODE.");
        SubgraphDesk x = path();
        for (int i = 1; i <= 6; i++) {
            due(x, i, "seen", i % 2, i % 4);
        }
        refused(x, -5, "seen", 0, 0);
        due(x, 6, "count", 4);
        due(x, 6, "forget");
        for (int i = 1; i <= 6; i++) {
            due(x, i, "seen", 0, 0);
        }
        due(x, -5, "seen", 1, 1);
        due("the seventh is not seen", ask(x, "fitting"), 1);
    }

    static void p35_noSuchGoesAheadOfNoRoom() {
        sentence("The first of these in that order.");
        SubgraphDesk x = path();
        for (int i = 0; i < 6; i++) {
            ask(x, "seen", 0, 0);
        }
        due(x, -2, "seen", 2, 0);
        due(x, -2, "seen", 0, 4);
        due(x, -5, "seen", 0, 3);
    }

    static void p35_itLeavesWhatCanBeUndone() {
        sentence("SEEN: how often there was. -2; -5. It leaves what can be undone.");
        SubgraphDesk x = desk(2, 1);
        edges(x, 0, 1);
        ask(x, "seen", 0, 1);
        ask(x, "seen", 9, 9);
        due(x, 1, "count", 6);
        due(x, 0, "undo");
        due("undo leaves what was seen", ask(x, "count", 4), 1);
    }

    // ---- promise 36

    static void p36_howOftenThereWas() {
        sentence("SEEN is nothing then: how often there was.");
        SubgraphDesk x = path();
        due(x, 0, "forget");
        ask(x, "seen", 0, 0);
        ask(x, "seen", 1, 0);
        due(x, 0, "fitting");
        due(x, 2, "forget");
        due(x, 0, "count", 4);
        due(x, 6, "fitting");
        due(x, 0, "forget");
        due(x, 1, "seen", 1, 1);
        due(x, 2, "fitting");
    }

    static void p36_itLeavesWhatCanBeUndone() {
        sentence("(nothing that was ahead of a node(), vertex(), terms(), row(), back() that was not REFUSED can be undone)");
        SubgraphDesk x = path();
        ask(x, "seen", 0, 0);
        due(x, 4, "count", 6);
        ask(x, "forget");
        due(x, 4, "count", 6);
        due(x, 1, "undo");
        due(x, 0, "count", 4);
    }

    static void p36_itIsNeverRefused() {
        sentence("0 if it was not, or ahead of any.");
        SubgraphDesk x = new SubgraphDesk();
        ask(x, "node", 9);
        due(x, 0, "forget");
        due("forget() is not among those that status() tells of", ask(x, "status"), -1);
    }

    // ---- promise 37

    static void p37_allThatWasSeenIsSo() {
        sentence("FITTING: WAYS by which all that was SEEN is so.");
        SubgraphDesk x = path();
        due(x, 6, "fitting");
        ask(x, "seen", 0, 1);
        due(x, 2, "fitting");
        ask(x, "seen", 0, 1);
        due("seen again", ask(x, "fitting"), 2);
        ask(x, "seen", 1, 2);
        due(x, 1, "fitting");
        ask(x, "seen", 0, 2);
        due("one vertex on two nodes", ask(x, "fitting"), 0);
        due(x, 6, "ways");
        ask(x, "forget");
        ask(x, "seen", 0, 2);
        ask(x, "seen", 1, 2);
        due("two vertices on one node", ask(x, "fitting"), 0);
        ask(x, "forget");
        ask(x, "seen", 0, 0);
        ask(x, "seen", 1, 3);
        due("no edge", ask(x, "fitting"), 0);
    }

    static void p37_theEmptyPatternAndNoWay() {
        sentence("How many WAYS are FITTING.");
        due(new SubgraphDesk(), 1, "fitting");
        due(desk(2, 0), 1, "fitting");
        due(desk(0, 1), 0, "fitting");
        due(desk(1, 2), 0, "fitting");
    }

    static void p37_oneVertexOnEachNode() {
        sentence("FITTING: WAYS by which all that was SEEN is so.");
        SubgraphDesk x = desk(12, 1);
        due(x, 12, "fitting");
        ask(x, "seen", 0, 11);
        due(x, 1, "fitting");
        ask(x, "seen", 0, 0);
        due(x, 0, "fitting");
    }

    static void p37_theMost() {
        sentence("How many WAYS are FITTING.");
        SubgraphDesk x = desk(12, 5);
        due(x, 95040, "fitting");
        ask(x, "seen", 4, 11);
        due(x, 7920, "fitting");
    }

    static void p37_whatIsSeenMayNotBe() {
        sentence("FITTING: WAYS by which all that was SEEN is so.");
        SubgraphDesk x = path();
        due("seen where it may not lie", ask(x, "paint", 0, 3), 1);
        due(x, 1, "seen", 0, 0);
        due(x, 0, "fitting");
        ask(x, "dye", 0, 6);
        due(x, 1, "fitting");
        forced(x, "bars if vertex = 1 and node = 1");
        due(x, 0, "fitting");
    }

    // ---- promise 38

    static void p38_whatIs0Or1() {
        sentence("To LOOK at: the VERTEX (what 0), how many WAYS are left at most (1). "
            + "NONE (none is FITTING; no VERTICES; others).");
        SubgraphDesk x = path();
        due(x, 0, "look", 0);
        due(x, 2, "look", 1);
        none(x, "look", 2);
        none(x, "look", -1);
        due(x, -1, "look", MOST);
        due(x, -1, "look", LEAST);
    }

    static void p38_noneIsFitting() {
        sentence("NONE (none is FITTING; no VERTICES; others).");
        SubgraphDesk x = path();
        ask(x, "seen", 0, 0);
        ask(x, "seen", 1, 0);
        none(x, "look", 0);
        none(x, "look", 1);
        due(desk(0, 1), -1, "look", 0);
        due(desk(1, 2), -1, "look", 1);
    }

    static void p38_noVertices() {
        sentence("NONE (none is FITTING; no VERTICES; others).");
        SubgraphDesk x = desk(3, 0);
        due("the one way is fitting", ask(x, "fitting"), 1);
        none(x, "look", 0);
        none(x, "look", 1);
    }

    static void p38_theLowestOfThoseWithAsFew() {
        sentence("To LOOK at: the VERTEX that in the FITTING WAYS lies on one NODE in the most that are as few as can be; the lowest.");
        SubgraphDesk x = desk(4, 3);
        edges(x, 0, 1, 0, 2, 0, 3);
        links(x, 0, 1);
        // 0 on 0 in six of twelve ways, 1 too; 2 on 1, 2, 3 in four
        due(x, 2, "look", 0);
        due(x, 4, "look", 1);
        ask(x, "seen", 2, 1);
        // 0-2, 0-3, 2-0, 3-0 are left
        due(x, 0, "look", 0);
        due(x, 2, "look", 1);
        ask(x, "seen", 0, 0);
        due(x, 1, "look", 0);
        due(x, 1, "look", 1);
        ask(x, "seen", 1, 3);
        due("one way is left: all lie in it", ask(x, "look", 0), 0);
        due(x, 1, "look", 1);
    }

    static void p38_oneVertexOnEachNode() {
        sentence("To LOOK at: the VERTEX (what 0), how many WAYS are left at most (1).");
        SubgraphDesk x = desk(12, 1);
        due(x, 0, "look", 0);
        due(x, 1, "look", 1);
        ask(x, "seen", 0, 11);
        due(x, 0, "look", 0);
        due(x, 1, "look", 1);
    }

    static void p38_theMost() {
        sentence("how many WAYS are left at most (1)");
        SubgraphDesk x = desk(12, 5);
        due(x, 0, "look", 0);
        due(x, 7920, "look", 1);
    }

    // ---- promise 39

    static void p39_kFrom1To20() {
        sentence("FEW, k 1 .. 20, n 0 .. 99. NONE.");
        SubgraphDesk x = new SubgraphDesk();
        due(x, CERTAIN / 10 * 9, "few", 1, 1);
        due(x, CERTAIN, "few", 20, 1);
        none(x, "few", 0, 1);
        none(x, "few", 21, 1);
        none(x, "few", -1, 1);
        due(x, -1, "few", MOST, 1);
        due(x, -1, "few", LEAST, 1);
    }

    static void p39_nFrom0To99() {
        sentence("FEW, k 1 .. 20, n 0 .. 99. NONE.");
        SubgraphDesk x = new SubgraphDesk();
        due(x, CERTAIN, "few", 1, 0);
        due(x, CERTAIN, "few", 20, 0);
        due(x, 29_512_660L, "few", 1, 99);
        due(x, 998_255_635_351L, "few", 20, 99);
        due(x, 995_913_661_445L, "few", 19, 99);
        none(x, "few", 1, 100);
        none(x, "few", 1, -1);
        due(x, -1, "few", 1, MOST);
        due(x, -1, "few", 1, LEAST);
    }

    static void p39_fewerThanK() {
        sentence("FEW: the chance, of 1,000,000,000,000 parts, that of n marks, each of which slips in SLIPS of ten, fewer than k do");
        SubgraphDesk x = new SubgraphDesk();
        due("none of two", ask(x, "few", 1, 2), CERTAIN / 100 * 81);
        due("one of two at most", ask(x, "few", 2, 2), CERTAIN / 100 * 99);
        due("two of two at most", ask(x, "few", 3, 2), CERTAIN);
        ask(x, "terms", 1, 5);
        due("20 marks, 19 slips at most, cut", ask(x, "few", 20, 20), 999_999_046_270L);
        due("19 marks, all may slip, cut", ask(x, "few", 20, 19), 999_999_999_958L);
        due(x, 999_989_509_524L, "few", 20, 21);
        due("cut to nothing", ask(x, "few", 1, 99), 0);
        due(x, 200, "few", 20, 99);
    }

    static void p39_bothAreCut() {
        sentence("mark by mark, by how many did, each part times the rest by ten and times SLIPS by ten (one more), both cut; "
            + "of those below k all together.");
        SubgraphDesk x = new SubgraphDesk();
        due(x, 254_186_582_832L, "few", 1, 13);
        due(x, 621_344_980_257L, "few", 2, 13);
        ask(x, "terms", 1, 3);
        due(x, 647_069_500_000L, "few", 3, 7);
        ask(x, "terms", 1, 2);
        due(x, 480_021_412_253L, "few", 20, 99);
    }

    static void p39_noneSlipsAllSlip() {
        sentence("1 SLIPS 0 .. 10 (1)");
        SubgraphDesk x = new SubgraphDesk();
        ask(x, "terms", 1, 0);
        due(x, CERTAIN, "few", 1, 99);
        due(x, CERTAIN, "few", 20, 99);
        ask(x, "terms", 1, 10);
        due(x, CERTAIN, "few", 1, 0);
        due(x, 0, "few", 1, 1);
        due(x, CERTAIN, "few", 2, 1);
        due(x, 0, "few", 19, 19);
        due(x, CERTAIN, "few", 20, 19);
        due(x, 0, "few", 20, 20);
        ask(x, "terms", 1, 9);
        due(x, CERTAIN / 10, "few", 1, 1);
        due(x, 0, "few", 20, 99);
    }
}
