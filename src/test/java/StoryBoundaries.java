/** What the document begins with: all that the desk is for, told by one graph of triangles and a pattern with a tail. */
final class StoryBoundaries extends TestKit {
    private static final String LAW =
        "costs 2 * degree + colour if vertex < 2; costs 9 - node if vertex = 2; bars if node = 5 and vertex = 0";

    /** Nine nodes of three colours; a triangle of vertices of any colour, and a tail of colour 1. */
    private static SubgraphDesk story() {
        SubgraphDesk x = new SubgraphDesk();
        for (int colour : new int[] {0, 1, 2, 0, 1, 2, 0, 1, 1}) {
            ask(x, "node", colour);
        }
        edges(x, 0, 1, 2, 1, 0, 2, 3, 2, 4, 3, 4, 5, 5, 3, 4, 7, 7, 5, 1, 4, 6, 5, 8, 6, 6, 7);
        for (int colour : new int[] {6, 6, 6, 1}) {
            ask(x, "vertex", colour);
        }
        links(x, 0, 1, 1, 2, 2, 0, 2, 3);
        return x;
    }

    /** Calls and what they answer: "of 0 0 = 2; ways = 16". */
    private static void told(SubgraphDesk x, String calls) {
        for (String call : calls.split("; ")) {
            String[] words = call.split(" = | ");
            int[] arguments = new int[words.length - 2];
            for (int i = 0; i < arguments.length; i++) {
                arguments[i] = Integer.parseInt(words[i + 1]);
            }
            due(x, Long.parseLong(words[words.length - 1]), words[0], arguments);
        }
    }

    static void p01_aPatternInAGraph() {
        sentence("A desk that seeks a small pattern of linked vertices in a graph of nodes and edges: colours, "
            + "edges in the order in which they came, vertices of any colour;");
        SubgraphDesk x = story();
        told(x, "count 0 = 9; count 1 = 4; count 2 = 13; count 3 = 4");
        told(x, "of 0 0 = 0; of 0 1 = 2; of 5 0 = 2; of 5 1 = 4; of 8 0 = 1; of 8 1 = 1");
        told(x, "came 0 = 1; came 1 = 14; came 2 = 2; came 3 = 27; came 4 = 40; came 5 = 53; came 6 = 41; came 7 = 55; "
            + "came 8 = 67; came 9 = 16; came 10 = 66; came 11 = 80; came 12 = 79; came 13 = -1");
        told(x, "at 0 0 = 6; at 0 2 = 6; at 1 0 = 6; at 1 2 = 5; at 2 0 = 6; at 2 2 = 11; at 3 0 = 1; at 3 2 = 4");
    }

    static void p01_lawsOfCosts() {
        sentence("laws in a language of what it costs to lay a vertex on a node, on which it does not lie;");
        SubgraphDesk x = story();
        told(x, "lay 0 5 0 = 1; lay 2 5 0 = 1; lay 0 5 1 = 1; lay 3 5 1 = 0; lay 3 4 1 = 1; ways = 16");
        forced(x, LAW);
        told(x, "lay 0 5 0 = 10; lay 1 5 0 = 10; lay 2 5 0 = 4; lay 3 5 0 = 1");
        told(x, "lay 0 5 1 = 0; lay 1 5 1 = 1; lay 3 5 1 = 0; lay 3 4 1 = 1; ways = 11");
    }

    static void p01_drawnAndTakenAway() {
        sentence("; edges and links drawn and taken away, nodes and vertices painted;");
        SubgraphDesk x = story();
        told(x, "edge 0 1 = 0; edge 1 0 = 1; came 0 = 14; came 12 = 1; link 3 2 = 0; link 2 3 = 1");
        told(x, "paint 4 3 = 1; paint 4 3 = -3; dye 3 6 = 1; dye 3 1 = 6; ways = 10");
        told(x, "of 4 0 = 3; at 3 0 = 1; count 2 = 13; count 3 = 4");
    }

    static void p01_allWays() {
        sentence("all ways the pattern lies in the graph, counted, told in order, once for each symmetry, the cheapest;");
        SubgraphDesk x = story();
        told(x, "ways = 16; way 0 0 = 0; way 0 1 = 2; way 0 2 = 1; way 0 3 = 4; way 1 0 = 2; way 1 1 = 0; way 1 2 = 1; way 1 3 = 4; "
            + "way 2 0 = 3; way 2 1 = 4; way 2 2 = 5; way 2 3 = 7; way 15 0 = 7; way 15 1 = 6; way 15 2 = 5; way 15 3 = 4; way 16 0 = -1");
        told(x, "once = 8; onceWay 0 0 = 0; onceWay 0 1 = 2; onceWay 0 2 = 1; onceWay 0 3 = 4; onceWay 1 0 = 3; onceWay 1 1 = 4; "
            + "onceWay 1 2 = 5; onceWay 1 3 = 7; onceWay 7 0 = 6; onceWay 7 1 = 7; onceWay 7 2 = 5; onceWay 7 3 = 4; onceWay 8 0 = -1");
        told(x, "best -1 = 4; best 0 = 0; best 3 = 4");
        forced(x, LAW);
        told(x, "ways = 11; once = 8; best -1 = 18; best 0 = 6; best 1 = 7; best 2 = 5; best 3 = 4");
    }

    static void p01_candidatesAndSteps() {
        sentence("candidates shrunk by passes there and back, how many steps three ways to search take, "
            + "what is found within so many;");
        told(story(), "steps 0 = 75; steps 1 = 70; steps 2 = 53; within 6 = 0; within 20 = 6; within 53 = 16");
        SubgraphDesk x = new SubgraphDesk();
        for (int colour : new int[] {2, 0, 2, 1, 1, 0, 0, 2}) {
            ask(x, "node", colour);
        }
        edges(x, 1, 3, 2, 3, 1, 5, 4, 5);
        for (int colour : new int[] {2, 6, 6, 0, 1}) {
            ask(x, "vertex", colour);
        }
        links(x, 0, 1, 1, 2, 2, 3, 3, 4);
        told(x, "candidates 0 0 = 4; candidates 1 0 = 42; candidates 2 0 = 42; candidates 3 0 = 34; candidates 4 0 = 24");
        told(x, "candidates 0 1 = 4; candidates 1 1 = 8; candidates 2 1 = 42; candidates 3 1 = 34; candidates 4 1 = 24");
        told(x, "candidates 0 2 = 4; candidates 1 2 = 8; candidates 2 2 = 2; candidates 3 2 = 32; candidates 4 2 = 16");
        told(x, "candidates 0 9 = 4; candidates 1 9 = 8; candidates 2 9 = 2; candidates 3 9 = 32; candidates 4 9 = 16");
        told(x, "steps 0 = 7; steps 1 = 5; steps 2 = 5; within 4 = 0; within 5 = 1; within 9999 = 1; ways = 1");
    }

    static void p01_whatIsAlikeAndWhatWasSeen() {
        sentence("symmetries, twins of vertices, kinds of nodes told apart round by round, sets of nodes, which nodes are touched, "
            + "ways that fit what was seen, the vertex to look at next, how likely so few slip, a law compared with another one;");
        SubgraphDesk x = story();
        told(x, "symmetries = 2; at 0 3 = 2; at 1 3 = 1; at 2 3 = 0; at 3 3 = 0");
        told(x, "kind -1 0 = 3; kind -1 1 = 8; kind -1 2 = 9; kind 8 0 = 1; kind 8 1 = 7; kind 8 2 = 8");
        told(x, "sets 1 = 1; sets 5 = 3; sets 60 = 6; touched = 511");
        told(x, "seen 2 5 = 1; fitting = 4; look 0 = 0; look 1 = 1; seen 3 4 = 2; fitting = 2");
        told(x, "forget = 2; fitting = 16; look 0 = 0; look 1 = 5");
        told(x, "few 1 3 = 729000000000; few 2 3 = 972000000000; terms 1 2 = 1; few 2 3 = 896000000000");
        law(x, LAW);
        told(x, "compare -1 = 4; compare 0 = 18; force 0 = -1; compare -1 = 4; compare 0 = 18");
    }

    static void p01_goneBackTo() {
        sentence("; acts taken back, days by draws; all gone back to.");
        SubgraphDesk x = story();
        told(x, "image 0 = 0; edge 0 1 = 0; link 0 3 = 1; paint 0 5 = 0; dye 0 5 = 6");
        told(x, "undo = 3; undo = 2; undo = 1; undo = 0; undo = 1; came 0 = 1; count 3 = 3");
        told(x, "days 7 3 = 13; drawn 0 0 = 0; drawn 0 1 = 22; drawn 4 1 = 171; count 2 = 13; count 14 = 0");
        told(x, "terms 0 9 = 0; node 3 = 9; vertex 2 = 4; back 0 = 0");
        told(x, "count 0 = 9; count 1 = 4; count 3 = 4; count 14 = 0; ways = 16; undo = -3");
    }
}
