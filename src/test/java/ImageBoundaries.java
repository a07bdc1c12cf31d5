/** Promises 41 to 46: days on paper, images, counts, status. */
final class ImageBoundaries extends TestKit {
    private static final int LEAST = Integer.MIN_VALUE;
    private static final int MOST = Integer.MAX_VALUE;

    /** The nodes to which each node has edges behind the latest days. */
    private static void drawn(SubgraphDesk x, int... sets) {
        for (int n = 0; n < sets.length; n++) {
            due(x, sets[n], "drawn", n, 1);
        }
    }

    private static void drawnColours(SubgraphDesk x, int... colours) {
        for (int n = 0; n < colours.length; n++) {
            due(x, colours[n], "drawn", n, 0);
        }
    }

    // ---- promise 41

    static void p41_seedFrom0To1000000() {
        sentence("s is the SEED (0 .. 1,000,000)");
        SubgraphDesk x = desk(12, 0);
        taken(x, 1, "days", 0, 1);
        refused(x, -1, "days", -1, 1);
        refused(x, -1, "days", 1_000_001, 1);
        due(x, -1, "days", MOST, 1);
        due(x, -1, "days", LEAST, 1);
        taken(x, 0, "days", 1_000_000, 1);
        taken(x, 18, "days", 1_000_000, 60);
    }

    static void p41_nFrom1To60() {
        sentence("DAYS with a SEED, n 1 .. 60, on paper");
        SubgraphDesk x = desk(12, 0);
        taken(x, 19, "days", 0, 60);
        refused(x, -1, "days", 0, 61);
        refused(x, -1, "days", 0, 0);
        due(x, -1, "days", 0, -1);
        due(x, -1, "days", 0, MOST);
        due(x, -1, "days", 0, LEAST);
        taken(x, 1, "days", 0, 1);
        taken(x, 17, "days", 1_000_000, 59);
    }

    static void p41_thereAreNoNodes() {
        sentence("DAYS, kept as the latest: how many EDGES there are behind them. -1; -3 there are no NODES.");
        SubgraphDesk x = new SubgraphDesk();
        refused(x, -3, "days", 0, 1);
        ask(x, "vertex", 1);
        refused(x, -3, "days", 1_000_000, 60);
        due("a number that can't be goes ahead", ask(x, "days", -1, 1), -1);
        due(x, -1, "days", 0, 61);
    }

    static void p41_oneNode() {
        sentence("the two NODES are JOINED, if they are two");
        SubgraphDesk x = desk(1, 0);
        taken(x, 0, "days", 0, 60);
        due(x, 1, "drawn", 0, 0);
        due(x, 0, "drawn", 0, 1);
        SubgraphDesk y = desk(12, 0);
        due("4 and 4 are drawn, and 0", ask(y, "days", 5, 1), 0);
        drawn(y, 0, 0, 0, 0, 0, 0, 0, 0, 0, 0, 0, 0);
    }

    static void p41_whatTheLastDrawDoes() {
        sentence("at 0, 1 (the last DRAW) the two NODES are JOINED, if they are two, at 2 the first is PAINTED "
            + "with the third DRAW, at 3 nothing");
        SubgraphDesk x = desk(12, 0);
        due("6, 4, 4, 0", ask(x, "days", 3, 1), 1);
        due(x, 16, "drawn", 6, 1);
        due(x, 64, "drawn", 4, 1);
        due(x, 1, "drawn", 6, 0);
        due("9, 5, 1, 1", ask(x, "days", 0, 1), 1);
        due(x, 32, "drawn", 9, 1);
        due("5, 10, 5, 2", ask(x, "days", 4, 1), 0);
        drawnColours(x, 1, 1, 1, 1, 1, 5, 1, 1, 1, 1, 1, 1);
        due("3, 10, 1, 2: it has that colour", ask(x, "days", 6, 1), 0);
        drawnColours(x, 1, 1, 1, 1, 1, 1, 1, 1, 1, 1, 1, 1);
        due("8, 11, 2, 3", ask(x, "days", 1, 1), 0);
        drawnColours(x, 1, 1, 1, 1, 1, 1, 1, 1, 1, 1, 1, 1);
    }

    static void p41_anEdgeThatStandsIsNoMore() {
        sentence("To JOIN two NODES: there is an EDGE between them (it came last), if there was none, else no more.");
        SubgraphDesk x = desk(12, 0);
        edges(x, 4, 6, 0, 1);
        due("6, 4, 4, 0", ask(x, "days", 3, 1), 1);
        drawn(x, 2, 1, 0, 0, 0, 0, 0);
        due(x, 2, "count", 2);
    }

    static void p41_eachDrawFollowsTheOneAhead() {
        sentence("a DRAW of m: s becomes (s times 1103 and 12345) modulo 1,000,003, it is s modulo m.");
        SubgraphDesk x = desk(12, 0);
        due("9 5, 0 10, paint 10 as 1, 6 8, 4 6, 5 7", ask(x, "days", 0, 6), 5);
        drawn(x, 1024, 0, 0, 0, 64, 640, 272, 32, 64, 32, 1, 0);
        due(x, 19, "days", 0, 60);
        drawn(x, 258, 553, 832, 898, 0, 642, 2948, 360, 205, 110, 2048, 1088);
        drawnColours(x, 1, 1, 4, 5, 1, 3, 0, 1, 1, 3, 1, 3);
        due(x, 18, "days", 1_000_000, 60);
        drawn(x, 896, 2656, 48, 0, 132, 1606, 2210, 81, 1025, 1059, 2848, 1090);
        drawnColours(x, 4, 4, 3, 1, 1, 1, 2, 1, 2, 0, 2, 5);
    }

    static void p41_asManyNodesAsThereAre() {
        sentence("DRAWS of NODES, of NODES, of 6, of 4, whatever comes of them");
        SubgraphDesk x = desk(3, 0);
        due("0 2, 0 1, paint 1 as 1, 0 2", ask(x, "days", 0, 4), 1);
        drawn(x, 2, 1, 0);
        SubgraphDesk y = desk(2, 0);
        due(y, 1, "days", 7, 60);
        drawn(y, 2, 1);
        drawnColours(y, 4, 5);
    }

    static void p41_asLongAsTimeIsBelow999() {
        sentence("Each time, as long as TIME is below 999");
        sentence("at 3 nothing; then TIME is one more.");
        SubgraphDesk x = desk(12, 0);
        ask(x, "terms", 0, 999);
        taken(x, 0, "days", 3, 60);
        drawn(x, 0, 0, 0, 0, 0, 0, 0);
        ask(x, "terms", 0, 998);
        taken(x, 1, "days", 3, 60);
        drawn(x, 0, 0, 0, 0, 64, 0, 16);
        ask(x, "terms", 0, 997);
        due(x, 2, "days", 0, 60);
        drawn(x, 1024, 0, 0, 0, 0, 512, 0, 0, 0, 32, 1, 0);
        ask(x, "terms", 0, 940);
        due("59 days", ask(x, "days", 1_000_000, 60), 17);
        ask(x, "terms", 0, 939);
        due("60 days", ask(x, "days", 1_000_000, 60), 18);
    }

    static void p41_onPaper() {
        sentence("DAYS with a SEED, n 1 .. 60, on paper");
        SubgraphDesk x = desk(4, 1);
        edges(x, 0, 1);
        String before = board(x);
        ask(x, "days", 77, 60);
        due(x, 1, "count", 2);
        due(x, 0, "count", 14);
        due(x, 1, "count", 6);
        due(x, 0, "undo");
        edges(x, 0, 1);
        ask(x, "days", 3, 0);
        ask(x, "days", 61, 61);
        due("what stood", before.replaceAll("drawn\\S+ \\S+ ", "").equals(board(x).replaceAll("drawn\\S+ \\S+ ", "")) ? 1 : 0, 1);
        ask(x, "days", 3, 1);
        due("each begins with what stands", ask(x, "days", 3, 1), ask(x, "days", 3, 1));
    }

    // ---- promise 42

    static void p42_whatIs0Or1() {
        sentence("Behind the latest DAYS of a NODE COLOUR (what 0), the NODES to which it has EDGES, as bits (1). NONE.");
        SubgraphDesk x = desk(12, 0);
        ask(x, "days", 3, 1);
        due(x, 1, "drawn", 6, 0);
        due(x, 16, "drawn", 6, 1);
        none(x, "drawn", 6, 2);
        none(x, "drawn", 6, -1);
        due(x, -1, "drawn", 6, MOST);
        due(x, -1, "drawn", 6, LEAST);
    }

    static void p42_noSuchNode() {
        sentence("the NODES to which it has EDGES, as bits (1). NONE.");
        SubgraphDesk x = desk(3, 0);
        due("ahead of any", ask(x, "drawn", 0, 0), -1);
        none(x, "drawn", 0, 1);
        ask(x, "days", 1, 1);
        due(x, 1, "drawn", 2, 0);
        none(x, "drawn", 3, 0);
        none(x, "drawn", -1, 0);
        due(x, -1, "drawn", MOST, 1);
        due(x, -1, "drawn", LEAST, 1);
    }

    static void p42_behindTheLatestThatWereNotRefused() {
        sentence("Behind the latest DAYS of a NODE");
        SubgraphDesk x = desk(12, 0);
        ask(x, "days", 3, 1);
        ask(x, "days", 0, 61);
        ask(x, "days", -1, 1);
        due(x, 16, "drawn", 6, 1);
        ask(x, "paint", 6, 5);
        edges(x, 6, 11);
        due(x, 16, "drawn", 6, 1);
        due(x, 1, "drawn", 6, 0);
        ask(x, "days", 1, 1);
        due(x, 2048, "drawn", 6, 1);
        due(x, 5, "drawn", 6, 0);
    }

    // ---- promise 43

    static void p43_images0And1() {
        sentence("IMAGE k is kept: 0; -1.");
        SubgraphDesk x = desk(2, 1);
        edges(x, 0, 1);
        taken(x, 0, "image", 0);
        taken(x, 0, "image", 1);
        refused(x, -1, "image", 2);
        refused(x, -1, "image", -1);
        due(x, -1, "image", MOST);
        due(x, -1, "image", LEAST);
        due("an image leaves what can be undone", ask(x, "count", 6), 1);
        due(x, 0, "undo");
    }

    static void p43_keptAnew() {
        sentence("IMAGE k is kept");
        SubgraphDesk x = new SubgraphDesk();
        for (int i = 0; i < 3; i++) {
            ask(x, "node", i);
            ask(x, "image", 0);
        }
        ask(x, "node", 5);
        due(x, 0, "back", 0);
        due(x, 3, "count", 0);
        due("the number comes round again", ask(x, "node", 4), 3);
        due(x, 4, "of", 3, 0);
        due(x, 0, "of", 3, 2);
    }

    static void p43_anEmptyDesk() {
        sentence("BACK to one all that it keeps is as it was then");
        SubgraphDesk x = new SubgraphDesk();
        ask(x, "image", 1);
        String before = board(x);
        ask(x, "node", 1);
        ask(x, "node", 1);
        ask(x, "vertex", 1);
        ask(x, "vertex", 1);
        edges(x, 0, 1);
        links(x, 0, 1);
        forced(x, "costs 7");
        ask(x, "terms", 1, 9);
        ask(x, "seen", 0, 0);
        taken(x, 0, "back", 1);
        same("what stands", board(x), before);
        due(x, 0, "node", 3);
        due(x, 0, "of", 0, 2);
        due(x, 0, "vertex", 3);
        due(x, 0, "at", 0, 2);
        due("law", law(x, "costs 5"), 0);
    }

    // ---- promise 44

    static void p44_images0And1() {
        sentence("BACK to IMAGE k: 0. -1; -2 it was not kept.");
        SubgraphDesk x = desk(2, 1);
        edges(x, 0, 1);
        refused(x, -2, "back", 0);
        refused(x, -2, "back", 1);
        refused(x, -1, "back", 2);
        refused(x, -1, "back", -1);
        due(x, -1, "back", MOST);
        due(x, -1, "back", LEAST);
        due(x, 1, "count", 6);
        ask(x, "image", 1);
        due(x, -2, "back", 0);
        taken(x, 0, "back", 1);
    }

    static void p44_allThatItKeeps() {
        sentence("IMAGES 0, 1 keep all but the TAPE, FAULT, SMUDGES, where ORDERS stopped, what can be undone "
            + "(nothing, behind back()), the latest DAYS");
        SubgraphDesk x = desk(3, 2);
        edges(x, 0, 1, 1, 2);
        links(x, 0, 1);
        ask(x, "terms", 0, 44);
        ask(x, "terms", 1, 4);
        ask(x, "terms", 2, 3);
        law(x, "costs 5");
        forced(x, "costs 6 + node");
        ask(x, "seen", 1, 1);
        ask(x, "days", 3, 1);
        ask(x, "image", 0);
        String before = board(x);
        ask(x, "node", 2);
        ask(x, "vertex", 2);
        edges(x, 0, 1, 3, 0, 0, 2);
        links(x, 0, 1, 2, 0);
        ask(x, "paint", 0, 4);
        ask(x, "dye", 0, 4);
        forced(x, "costs 7");
        for (int what = 0; what < 3; what++) {
            ask(x, "terms", what, 0);
        }
        ask(x, "forget");
        ask(x, "seen", 0, 0);
        taken(x, 0, "back", 0);
        same("what stands", board(x), before);
    }

    static void p44_whatImagesDoNotKeep() {
        sentence("IMAGES 0, 1 keep all but the TAPE, FAULT, SMUDGES, where ORDERS stopped");
        SubgraphDesk x = desk(3, 0);
        ask(x, "image", 0);
        law(x, "costs ?");
        orders(x, "join 0 to 1; join 0 to 0");
        due("fault of orders that can't be", ask(x, "fault"), -1);
        law(x, "costs ?");
        write(x, "?????");
        ask(x, "row");
        ask(x, "days", 0, 2);
        long paper = ask(x, "drawn", 0, 1) * 4096 + ask(x, "drawn", 1, 1) * 64 + ask(x, "drawn", 2, 1);
        ask(x, "feed", 1, 2, 3, 4, 5);
        edges(x, 0, 1);
        due(x, 0, "back", 0);
        due(x, 20, "count", 7);
        due(x, 6, "fault");
        due(x, 3, "smudges");
        due(x, 1, "stopped");
        due(x, 0, "count", 6);
        due("the latest days", ask(x, "drawn", 0, 1) * 4096 + ask(x, "drawn", 1, 1) * 64 + ask(x, "drawn", 2, 1), paper);
        due("two edges were drawn", paper > 0 ? 1 : 0, 1);
    }

    static void p44_nothingCanBeUndoneBehindIt() {
        sentence("what can be undone (nothing, behind back())");
        SubgraphDesk x = desk(2, 0);
        edges(x, 0, 1);
        ask(x, "image", 0);
        due(x, 1, "count", 6);
        due(x, 0, "back", 0);
        due(x, 0, "count", 6);
        refused(x, -3, "undo");
        due(x, 1, "count", 2);
    }

    static void p44_imagesStay() {
        sentence("BACK to one all that it keeps is as it was then (IMAGES stay).");
        SubgraphDesk x = desk(1, 0);
        ask(x, "image", 0);
        ask(x, "node", 1);
        ask(x, "image", 1);
        for (int i = 0; i < 3; i++) {
            due(x, 0, "back", 0);
            due(x, 1, "count", 0);
            ask(x, "paint", 0, 5);
            due(x, 0, "back", 1);
            due(x, 2, "count", 0);
            due(x, 1, "of", 0, 0);
            edges(x, 0, 1);
        }
        ask(x, "image", 0);
        due(x, 0, "back", 1);
        due(x, 0, "count", 2);
        due(x, 0, "back", 0);
        due(x, 1, "count", 2);
    }

    static void p44_lawsComeRoundAgain() {
        sentence("all gone back to");
        SubgraphDesk x = desk(1, 1);
        law(x, "costs 10");
        ask(x, "image", 0);
        for (int i = 1; i < 6; i++) {
            law(x, "costs " + (10 + i));
        }
        ask(x, "force", 5);
        due("no room", law(x, "bars"), -5);
        ask(x, "image", 1);
        due(x, 0, "back", 0);
        due(x, 1, "count", 5);
        due(x, -1, "count", 13);
        due(x, -2, "force", 1);
        due("another second law", law(x, "costs 77"), 1);
        due(x, 77, "compare", 1);
        due(x, 0, "back", 1);
        due(x, 11, "compare", 1);
        due(x, 15, "lay", 0, 0, 0);
        due("no room again", law(x, "bars"), -5);
        due(x, 0, "back", 0);
        due(x, 10, "compare", 0);
        due(x, -1, "compare", 1);
    }

    static void p44_theFirstLawComesRoundAgain() {
        sentence("BACK to one all that it keeps is as it was then");
        SubgraphDesk x = desk(1, 1);
        ask(x, "image", 0);
        due("law", law(x, "costs 11"), 0);
        ask(x, "image", 1);
        ask(x, "back", 0);
        due(x, -1, "compare", 0);
        due("another first law", law(x, "costs 12"), 0);
        due(x, 12, "compare", 0);
        ask(x, "back", 1);
        due(x, 11, "compare", 0);
    }

    static void p44_backToTheEmptyPatternBehindAWay() {
        sentence("BACK to one all that it keeps is as it was then");
        SubgraphDesk x = desk(4, 0);
        ask(x, "image", 0);
        for (int v = 0; v < 3; v++) {
            ask(x, "vertex", 1);
        }
        ask(x, "image", 1);
        for (String name : new String[] {"ways", "once", "fitting", "symmetries"}) {
            ask(x, "back", 1);
            due(x, 1, "way", 0, 1);
            ask(x, "back", 0);
            due(x, 1, name);
            due(x, 0, "touched");
            due(x, 1, "sets", 60);
            due(x, 0, "best", -1);
            due(x, 0, "steps", 0);
        }
    }

    static void p44_fullGraphAndPattern() {
        sentence("BACK to one all that it keeps is as it was then");
        SubgraphDesk x = desk(12, 5);
        GraphBoundaries.allEdges(x);
        ask(x, "image", 0);
        GraphBoundaries.allEdges(x);
        due(x, 0, "count", 2);
        due(x, 0, "back", 0);
        due(x, 66, "count", 2);
        due(x, 1, "came", 0);
        due(x, 131, "came", 65);
        due(x, 2047, "of", 11, 2);
        due(x, -5, "node", 1);
        due(x, -5, "vertex", 1);
    }

    // ---- promise 45

    static void p45_whatFrom0To16() {
        sentence("NONE for others.");
        SubgraphDesk x = desk(2, 1);
        none(x, "count", 17);
        none(x, "count", -1);
        due(x, -1, "count", MOST);
        due(x, -1, "count", LEAST);
    }

    static void p45_eachCount() {
        sentence("0 NODES, 1 VERTICES, 2 EDGES, 3 LINKS, 4 SEEN, 5 LAWS, 6 how many can be undone, 7 bytes of the TAPE");
        sentence("13 the LAW in FORCE, 14 .. 16 TERMS 0 .. 2.");
        SubgraphDesk x = desk(4, 3);
        law(x, "bars");
        forced(x, "costs 2");
        edges(x, 0, 1, 1, 2, 2, 3, 3, 0, 0, 2);
        links(x, 0, 1, 1, 2);
        for (int i = 0; i < 6; i++) {
            ask(x, "seen", 0, 0);
        }
        ask(x, "feed", 0, 0, 0, 0, 0);
        ask(x, "end", 19);
        int[] counts = {4, 3, 5, 2, 6, 2, 7, 19, 0, 0, 0, 0, 0, 1, 0, 1, 0};
        for (int what = 0; what < counts.length; what++) {
            due(x, counts[what], "count", what);
        }
        ask(x, "terms", 0, 999);
        ask(x, "terms", 1, 10);
        ask(x, "terms", 2, 9);
        due(x, 0, "count", 6);
        due(x, 999, "count", 14);
        due(x, 10, "count", 15);
        due(x, 9, "count", 16);
    }

    static void p45_refusalsOfEachSort() {
        sentence("8 .. 12 how many calls were REFUSED by -1, -2, -3, -5, -6 (IMAGES do not keep that)");
        sentence("REFUSED by: -1 a number that can't be; -2 there is no such NODE, VERTEX, LAW, IMAGE; "
            + "-3 it can't be by what stands; -5 no room; -6 a TEXT, a ROW that can't be.");
        SubgraphDesk x = desk(1, 1);
        ask(x, "image", 0);
        ask(x, "node", 6);
        for (int i = 0; i < 2; i++) {
            ask(x, "edge", 0, 1);
        }
        for (int i = 0; i < 3; i++) {
            ask(x, "undo");
        }
        for (int i = 0; i < 10; i++) {
            ask(x, "seen", 0, 0);
        }
        for (int i = 0; i < 5; i++) {
            ask(x, "row");
        }
        String refusals = refusals(x);
        same("refusals", refusals, "count(8)=1 count(9)=2 count(10)=3 count(11)=4 count(12)=5 ");
        ask(x, "back", 0);
        same("refusals behind back()", refusals(x), refusals);
        ask(x, "image", 1);
        ask(x, "row");
        ask(x, "back", 1);
        due(x, 6, "count", 12);
    }

    static void p45_whatAnswersNoneIsNotRefused() {
        sentence("how many calls were REFUSED");
        SubgraphDesk x = desk(2, 1);
        ask(x, "undo");
        for (int i = 0; i < 20; i++) {
            ask(x, "feed", 0, 0, 0, 0, 0);
        }
        String before = all(x) + refusals(x) + ask(x, "status");
        String[] calls = {"of 9 9", "at 9 9", "lay 9 9 9", "came 9", "feed 0 0 0 0 0", "end -1", "way 9 9", "onceWay 9 9", "best 9",
            "candidates 9 9", "steps 9", "within -9", "kind 9 9", "sets -9", "look 9", "few 0 0", "compare 9", "drawn 9 9", "count 99"};
        for (String call : calls) {
            String[] words = call.split(" ");
            int[] arguments = new int[words.length - 1];
            for (int i = 1; i < words.length; i++) {
                arguments[i - 1] = Integer.parseInt(words[i]);
            }
            due(x, -1, words[0], arguments);
        }
        same("what stands", all(x) + refusals(x) + ask(x, "status"), before);
    }

    static void p45_upToTheLastCall() {
        sentence("An object is used for at most 512 calls after it has been made; what later calls answer is free.");
        SubgraphDesk x = new SubgraphDesk();
        for (int i = 0; i < 255; i++) {
            ask(x, "undo");
            ask(x, "node", 6);
        }
        due(x, 255, "count", 8);
        due("the 512th call", ask(x, "count", 10), 255);
    }

    // ---- promise 46

    static void p46_aheadOfAny() {
        sentence("0 if it was not, or ahead of any.");
        SubgraphDesk x = new SubgraphDesk();
        due(x, 0, "status");
        ask(x, "of", 9, 9);
        due(x, 0, "status");
    }

    static void p46_theCallsThatItTellsOf() {
        sentence("What the latest call of node, vertex, terms, row, law, orders, force, edge, link, paint, dye, undo, seen, days, "
            + "image, back was REFUSED by; 0 if it was not");
        // a refused call, why, and one that is not refused
        String[][] calls = {
            {"node 6", "-1", "node 0"}, {"vertex 7", "-1", "vertex 6"}, {"terms 3 0", "-1", "terms 0 0"}, {"row", "-6", "row"},
            {"law", "-6", "law"}, {"orders", "-6", "orders"}, {"force 0", "-2", "force -1"}, {"edge 0 0", "-1", "edge 0 1"},
            {"link 0 5", "-2", "link 0 1"}, {"paint 0 1", "-3", "paint 0 2"}, {"dye 0 1", "-3", "dye 0 2"}, {"undo", "-3", "undo"},
            {"seen 0 9", "-2", "seen 0 0"}, {"days 0 0", "-1", "days 0 1"}, {"image 2", "-1", "image 0"}, {"back 1", "-2", "back 0"}
        };
        for (String[] call : calls) {
            SubgraphDesk x = desk(2, 2);
            ask(x, "image", 0);
            by(x, call[0]);
            due("status behind " + call[0], ask(x, "status"), Integer.parseInt(call[1]));
            if (call[2].equals("undo")) {
                edges(x, 0, 1);
                by(x, "force 9");
            }
            if (call[2].equals("row") || call[2].equals("law")) {
                write(x, "bars");
            }
            if (call[2].equals("orders")) {
                write(x, "join 0 to 1");
            }
            by(x, call[2]);
            due("status behind " + call[2], ask(x, "status"), 0);
        }
    }

    private static void by(SubgraphDesk x, String call) {
        String[] words = call.split(" ");
        int[] arguments = new int[words.length - 1];
        for (int i = 1; i < words.length; i++) {
            arguments[i - 1] = Integer.parseInt(words[i]);
        }
        ask(x, words[0], arguments);
    }

    static void p46_allOthersLeaveIt() {
        sentence("What the latest call of node, vertex, terms, row, law, orders, force, edge, link, paint, dye, undo, seen, days, "
            + "image, back was REFUSED by");
        String[] others = {"of 0 0", "at 0 0", "lay 0 0 0", "came 0", "feed 0 0 0 0 0", "end 0", "smudges", "fault", "stopped", "ways",
            "way 0 0", "once", "onceWay 0 0", "symmetries", "best -1", "candidates 0 0", "steps 0", "within 0", "kind 0 0", "sets 0",
            "touched", "forget", "fitting", "look 0", "few 1 1", "compare -1", "drawn 0 0", "count 0", "status",
            "of 9 9", "lay 9 9 9", "end -1", "way -1 0", "steps 9", "few 0 0", "compare 9", "drawn 0 9", "count 99"};
        SubgraphDesk x = desk(2, 2);
        ask(x, "days", 0, 1);
        edges(x, 0, 1);
        for (int why = -3; why <= 0; why++) {
            by(x, why == -3 ? "paint 0 1" : why == -2 ? "force 0" : why == -1 ? "edge 0 0" : "force -1");
            for (String other : others) {
                by(x, other);
                due("status behind " + other, ask(x, "status"), why);
            }
        }
    }
}
