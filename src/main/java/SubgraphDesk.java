import java.util.Arrays;

/** A desk that seeks a small pattern of linked vertices in a graph of nodes and edges. */
public final class SubgraphDesk {
    public static final int NONE = -1;

    private static final int BAD_NUMBER = -1;
    private static final int NO_SUCH = -2;
    private static final int NOT_SO_NOW = -3;
    private static final int NO_ROOM = -5;
    private static final int BAD_TEXT = -6;

    private static final int NODES_MOST = 12;
    private static final int VERTICES_MOST = 5;
    private static final int EDGES_MOST = 66;
    private static final int COLOURS = 6;
    private static final int ANY_COLOUR = 6;
    private static final int SEEN_MOST = 6;
    private static final int LAWS_MOST = 6;
    private static final int IMAGES = 2;
    private static final int TAPE_MOST = 400;
    private static final int FED = 20;
    private static final int CLAUSES_MOST = 12;
    private static final int TIME = 0;
    private static final int SLIPS = 1;
    private static final int MOOD = 2;
    private static final int TERMS = 3;
    private static final int TIME_MOST = 999;
    private static final int SLIPS_MOST = 10;
    private static final int MOOD_MOST = 9;
    private static final int SETS_MOST = 60;
    private static final int SEED_MOST = 1_000_000;
    private static final int DAYS_MOST = 60;
    private static final int PASSES_MOST = 9;
    private static final int SEARCH_PASSES = 4;
    private static final int STEPS_TOLD_MOST = 9_999;
    private static final int ROUNDS_MOST = 12;
    private static final int FEW_MOST = 20;
    private static final int MARKS_MOST = 99;
    private static final long CERTAIN = 1_000_000_000_000L;
    /** Far above what any walk can need: there are at most 95,040 ways. */
    private static final int MOVES_MOST = 1_000_000;

    private final Board board = new Board();
    private final Board[] images = new Board[IMAGES];
    private final Board paper = new Board();
    private final Acts acts = new Acts();
    private final Reader reader = new Reader();
    private final Ledger ledger = new Ledger();
    private final Walker walker = new Walker();
    private final Sieve sieve = new Sieve();
    private final Hunt hunt = new Hunt();
    private final Likeness likeness = new Likeness();
    private final Runner runner = new Runner();
    private final long[] chances = new long[FEW_MOST];
    private final int[] refusals = new int[5];
    private int latestRefusal;
    private int latestSmudges;

    public SubgraphDesk() {
        for (int k = 0; k < IMAGES; k++) {
            images[k] = new Board();
        }
    }

    // ---- what is refused, what is not

    private int refuse(int reason) {
        latestRefusal = reason;
        int slot = reason >= NOT_SO_NOW ? -1 - reason : -2 - reason;
        if (slot >= 0 && slot < refusals.length) {
            refusals[slot]++;
        }
        return reason;
    }

    private int grant(int answer) {
        latestRefusal = 0;
        return answer;
    }

    /** Of answers that are never negative: a negative one is why the call is refused. */
    private int refuseOrGrant(int answer) {
        return answer < 0 ? refuse(answer) : grant(answer);
    }

    // ---- the graph and the pattern

    public int node(int colour) {
        if (colour < 0 || colour >= COLOURS) {
            return refuse(BAD_NUMBER);
        }
        if (board.nodes >= NODES_MOST) {
            return refuse(NO_ROOM);
        }
        acts.clearAll();
        return grant(board.addNode(colour));
    }

    public int vertex(int colour) {
        if (colour < 0 || colour > ANY_COLOUR) {
            return refuse(BAD_NUMBER);
        }
        if (board.vertices >= VERTICES_MOST) {
            return refuse(NO_ROOM);
        }
        acts.clearAll();
        return grant(board.addVertex(colour));
    }

    public int of(int node, int what) {
        if (!board.hasNode(node)) {
            return NONE;
        }
        switch (what) {
            case 0:
                return board.colour[node];
            case 1:
                return board.degreeOf(node);
            case 2:
                return board.near[node];
            default:
                return NONE;
        }
    }

    public int at(int vertex, int what) {
        if (!board.hasVertex(vertex)) {
            return NONE;
        }
        switch (what) {
            case 0:
                return board.hue[vertex];
            case 1:
                return board.linksOf(vertex);
            case 2:
                return board.tied[vertex];
            case 3:
                return likeness.twinsOf(board, vertex);
            default:
                return NONE;
        }
    }

    public int lay(int vertex, int node, int what) {
        if (!board.hasVertex(vertex) || !board.hasNode(node)) {
            return NONE;
        }
        ledger.fill(board, board.lawInForce());
        switch (what) {
            case 0:
                return ledger.cost[vertex * NODES_MOST + node];
            case 1:
                return ledger.may[vertex] >> node & 1;
            default:
                return NONE;
        }
    }

    public int came(int i) {
        return i >= 0 && i < board.edges ? board.order[i] : NONE;
    }

    public int terms(int what, int value) {
        if (what < 0 || what >= TERMS || value < 0 || value > mostOfTerm(what)) {
            return refuse(BAD_NUMBER);
        }
        int was = board.term[what];
        board.term[what] = value;
        acts.clearAll();
        return grant(was);
    }

    private static int mostOfTerm(int what) {
        if (what == TIME) {
            return TIME_MOST;
        }
        return what == SLIPS ? SLIPS_MOST : MOOD_MOST;
    }

    // ---- the tape

    public int feed(int a, int b, int c, int d, int e) {
        Tape tape = reader.tape;
        if (tape.length > TAPE_MOST - FED) {
            return NONE;
        }
        tape.addFour(a);
        tape.addFour(b);
        tape.addFour(c);
        tape.addFour(d);
        tape.addFour(e);
        return tape.length;
    }

    public int end(int n) {
        if (n < 0 || n > reader.tape.length) {
            return NONE;
        }
        reader.tape.length = n;
        return n;
    }

    public int row() {
        Tape tape = reader.tape;
        if (tape.length == 0) {
            return refuse(BAD_TEXT);
        }
        int joined = 0;
        int smudged = tape.length % 2;
        for (int i = 0; i + 1 < tape.length; i += 2) {
            if (board.canJoin(tape.bytes[i], tape.bytes[i + 1])) {
                board.toggleEdge(tape.bytes[i], tape.bytes[i + 1]);
                joined++;
            } else {
                smudged++;
            }
        }
        tape.length = 0;
        latestSmudges = smudged;
        acts.clearAll();
        return grant(joined);
    }

    public int smudges() {
        return latestSmudges;
    }

    // ---- laws and orders

    public int law() {
        if (board.laws >= LAWS_MOST) {
            reader.tape.length = 0;
            return refuse(NO_ROOM);
        }
        if (!reader.readText(false)) {
            return refuse(BAD_TEXT);
        }
        return grant(board.addLaw(reader.draft.trimmed()));
    }

    public int orders() {
        runner.stoppedAt = NONE;
        if (!reader.readText(true)) {
            return refuse(BAD_TEXT);
        }
        runner.start(board, acts, ledger, walker);
        if (!runner.runAll(reader.draft)) {
            return refuse(NOT_SO_NOW);
        }
        return grant(runner.done);
    }

    public int fault() {
        return reader.faultAt;
    }

    public int stopped() {
        return runner.stoppedAt;
    }

    public int force(int law) {
        if (law != NONE && !board.hasLaw(law)) {
            return refuse(NO_SUCH);
        }
        int was = board.forced;
        board.forced = law;
        return grant(was);
    }

    // ---- acts

    public int edge(int one, int other) {
        return refuseOrGrant(acts.joinNodes(board, one, other));
    }

    public int link(int one, int other) {
        return refuseOrGrant(acts.tieVertices(board, one, other));
    }

    public int paint(int node, int colour) {
        return refuseOrGrant(acts.paintNode(board, node, colour));
    }

    public int dye(int vertex, int colour) {
        return refuseOrGrant(acts.dyeVertex(board, vertex, colour));
    }

    public int undo() {
        return refuseOrGrant(acts.takeBack(board));
    }

    // ---- ways

    private void startWays() {
        ledger.fill(board, board.lawInForce());
        walker.start(board, ledger.may);
    }

    private int nodeInWay(boolean found, int vertex) {
        return found && board.hasVertex(vertex) ? walker.place[vertex] : NONE;
    }

    public int ways() {
        startWays();
        return walker.countAll();
    }

    public int way(int i, int vertex) {
        startWays();
        return nodeInWay(walker.goTo(i), vertex);
    }

    public int once() {
        return findOnce(MOVES_MOST);
    }

    public int onceWay(int i, int vertex) {
        boolean found = i >= 0 && i < MOVES_MOST && findOnce(i) > i;
        return nodeInWay(found, vertex);
    }

    /** Walks as far as the one with number last, if there is one: how many it met. */
    private int findOnce(int last) {
        startWays();
        likeness.findSymmetries(board);
        int met = 0;
        for (int i = 0; i < MOVES_MOST && walker.advance(); i++) {
            if (likeness.isFirst(walker.place, ledger.may)) {
                met++;
                if (met > last) {
                    return met;
                }
            }
        }
        return met;
    }

    public int symmetries() {
        likeness.findSymmetries(board);
        return likeness.symmetries;
    }

    public int best(int vertex) {
        if (vertex != NONE && !board.hasVertex(vertex)) {
            return NONE;
        }
        startWays();
        int least = walker.findCheapest(ledger.cost);
        if (least == NONE || vertex == NONE) {
            return least;
        }
        return walker.cheapest[vertex];
    }

    public int compare(int law) {
        if (law != NONE && !board.hasLaw(law)) {
            return NONE;
        }
        ledger.fill(board, board.lawOrNull(law));
        walker.start(board, ledger.may);
        return walker.findCheapest(ledger.cost);
    }

    public int sets(int n) {
        if (n < 0 || n > SETS_MOST) {
            return NONE;
        }
        startWays();
        return walker.countSets(n);
    }

    public int touched() {
        startWays();
        return walker.touchedNodes();
    }

    // ---- searches

    private void sift(int passes) {
        ledger.fill(board, board.lawInForce());
        sieve.sift(board, ledger.may, passes);
    }

    public int candidates(int vertex, int n) {
        if (!board.hasVertex(vertex) || n < 0 || n > PASSES_MOST) {
            return NONE;
        }
        sift(n);
        return sieve.able[vertex];
    }

    public int steps(int search) {
        switch (search) {
            case 0:
                startWays();
                return walker.countSteps();
            case 1:
                sift(SEARCH_PASSES);
                walker.start(board, sieve.able);
                return walker.countSteps();
            case 2:
                sift(SEARCH_PASSES);
                hunt.search(board, sieve.able, MOVES_MOST);
                return hunt.steps;
            default:
                return NONE;
        }
    }

    public int within(int n) {
        if (n < 0 || n > STEPS_TOLD_MOST) {
            return NONE;
        }
        sift(SEARCH_PASSES);
        hunt.search(board, sieve.able, n);
        return hunt.laid;
    }

    public int kind(int node, int n) {
        if (n < 0 || n > ROUNDS_MOST || node != NONE && !board.hasNode(node)) {
            return NONE;
        }
        int kinds = likeness.tellKinds(board, n);
        return node == NONE ? kinds : likeness.kindOf[node];
    }

    // ---- what was seen

    public int seen(int vertex, int node) {
        if (!board.hasVertex(vertex) || !board.hasNode(node)) {
            return refuse(NO_SUCH);
        }
        if (board.sights >= SEEN_MOST) {
            return refuse(NO_ROOM);
        }
        return grant(board.addSight(vertex, node));
    }

    public int forget() {
        int was = board.sights;
        board.sights = 0;
        return was;
    }

    private void startFitting() {
        ledger.fill(board, board.lawInForce());
        ledger.keepToSights(board);
        walker.start(board, ledger.may);
    }

    public int fitting() {
        startFitting();
        return walker.countAll();
    }

    public int look(int what) {
        if (what != 0 && what != 1) {
            return NONE;
        }
        startFitting();
        int vertex = walker.findTelling();
        if (vertex == NONE || what == 0) {
            return vertex;
        }
        return walker.mostOnOneNode(vertex);
    }

    public long few(int k, int n) {
        if (k < 1 || k > FEW_MOST || n < 0 || n > MARKS_MOST) {
            return NONE;
        }
        int slips = board.term[SLIPS];
        Arrays.fill(chances, 0L);
        chances[0] = CERTAIN;
        for (int mark = 0; mark < n; mark++) {
            // from the top, so that each part is still the one ahead of this mark
            for (int did = k - 1; did >= 0; did--) {
                long stays = chances[did] * (SLIPS_MOST - slips) / 10;
                long comes = did > 0 ? chances[did - 1] * slips / 10 : 0;
                chances[did] = stays + comes;
            }
        }
        long sum = 0;
        for (int did = 0; did < k; did++) {
            sum += chances[did];
        }
        return sum;
    }

    // ---- days on paper

    public int days(int seed, int n) {
        if (seed < 0 || seed > SEED_MOST || n < 1 || n > DAYS_MOST) {
            return refuse(BAD_NUMBER);
        }
        if (board.nodes == 0) {
            return refuse(NOT_SO_NOW);
        }
        paper.copyFrom(board);
        long s = seed;
        for (int day = 0; day < n && paper.term[TIME] < TIME_MOST; day++) {
            long first = nextDraw(s);
            long second = nextDraw(first);
            long third = nextDraw(second);
            s = nextDraw(third);
            int one = (int) (first % board.nodes);
            int other = (int) (second % board.nodes);
            liveDay(one, other, (int) (third % COLOURS), (int) (s % 4));
        }
        return grant(paper.edges);
    }

    private static long nextDraw(long s) {
        return (s * 1103 + 12345) % 1_000_003;
    }

    private void liveDay(int one, int other, int colour, int deed) {
        if (deed < 2 && one != other) {
            paper.toggleEdge(one, other);
        }
        if (deed == 2) {
            paper.colour[one] = colour;
        }
        paper.term[TIME]++;
    }

    public int drawn(int node, int what) {
        if (!paper.hasNode(node)) {
            return NONE;
        }
        switch (what) {
            case 0:
                return paper.colour[node];
            case 1:
                return paper.near[node];
            default:
                return NONE;
        }
    }

    // ---- images, counts

    public int image(int k) {
        if (k < 0 || k >= IMAGES) {
            return refuse(BAD_NUMBER);
        }
        images[k].copyFrom(board);
        images[k].isKept = true;
        return grant(0);
    }

    public int back(int k) {
        if (k < 0 || k >= IMAGES) {
            return refuse(BAD_NUMBER);
        }
        if (!images[k].isKept) {
            return refuse(NO_SUCH);
        }
        board.copyFrom(images[k]);
        acts.clearAll();
        return grant(0);
    }

    public int count(int what) {
        if (what >= 8 && what <= 12) {
            return refusals[what - 8];
        }
        if (what >= 14 && what <= 16) {
            return board.term[what - 14];
        }
        switch (what) {
            case 0:
                return board.nodes;
            case 1:
                return board.vertices;
            case 2:
                return board.edges;
            case 3:
                return board.countLinks();
            case 4:
                return board.sights;
            case 5:
                return board.laws;
            case 6:
                return acts.held;
            case 7:
                return reader.tape.length;
            case 13:
                return board.forced;
            default:
                return NONE;
        }
    }

    public int status() {
        return latestRefusal;
    }

    /** All that an image keeps: graph, pattern, terms, what was seen, laws. */
    private static final class Board {
        int nodes;
        final int[] colour = new int[NODES_MOST];
        final int[] near = new int[NODES_MOST];
        int edges;
        final int[] order = new int[EDGES_MOST];
        int vertices;
        final int[] hue = new int[VERTICES_MOST];
        final int[] tied = new int[VERTICES_MOST];
        int sights;
        final int[] sight = new int[SEEN_MOST];
        final int[] term = new int[TERMS];
        int laws;
        int forced = NONE;
        final Program[] text = new Program[LAWS_MOST];
        boolean isKept;

        Board() {
            term[SLIPS] = 1;
        }

        void copyFrom(Board other) {
            nodes = other.nodes;
            edges = other.edges;
            vertices = other.vertices;
            sights = other.sights;
            laws = other.laws;
            forced = other.forced;
            System.arraycopy(other.colour, 0, colour, 0, NODES_MOST);
            System.arraycopy(other.near, 0, near, 0, NODES_MOST);
            System.arraycopy(other.order, 0, order, 0, EDGES_MOST);
            System.arraycopy(other.hue, 0, hue, 0, VERTICES_MOST);
            System.arraycopy(other.tied, 0, tied, 0, VERTICES_MOST);
            System.arraycopy(other.sight, 0, sight, 0, SEEN_MOST);
            System.arraycopy(other.term, 0, term, 0, TERMS);
            for (int i = 0; i < LAWS_MOST; i++) {
                text[i] = other.text[i];
            }
        }

        boolean hasNode(int n) {
            return n >= 0 && n < nodes;
        }

        boolean hasVertex(int v) {
            return v >= 0 && v < vertices;
        }

        boolean hasLaw(int i) {
            return i >= 0 && i < laws;
        }

        int addNode(int itsColour) {
            if (nodes >= NODES_MOST) {
                return NONE;
            }
            colour[nodes] = itsColour;
            near[nodes] = 0;
            return nodes++;
        }

        int addVertex(int itsColour) {
            if (vertices >= VERTICES_MOST) {
                return NONE;
            }
            hue[vertices] = itsColour;
            tied[vertices] = 0;
            return vertices++;
        }

        int addLaw(Program law) {
            if (laws >= LAWS_MOST) {
                return NONE;
            }
            text[laws] = law;
            return laws++;
        }

        /** How often there was, this time too. */
        int addSight(int v, int n) {
            if (sights < SEEN_MOST) {
                sight[sights] = v * NODES_MOST + n;
                sights++;
            }
            return sights;
        }

        Program lawOrNull(int i) {
            return hasLaw(i) ? text[i] : null;
        }

        Program lawInForce() {
            return lawOrNull(forced);
        }

        int degreeOf(int n) {
            return hasNode(n) ? Integer.bitCount(near[n]) : NONE;
        }

        int linksOf(int v) {
            return hasVertex(v) ? Integer.bitCount(tied[v]) : 0;
        }

        int countLinks() {
            int ends = 0;
            for (int v = 0; v < vertices; v++) {
                ends += linksOf(v);
            }
            return ends / 2;
        }

        boolean canJoin(int one, int other) {
            return hasNode(one) && hasNode(other) && one != other && (near[one] >> other & 1) == 0;
        }

        /** The place in the order that the edge had, if it is no more; NONE if it came. */
        int toggleEdge(int one, int other) {
            int told = Math.min(one, other) * NODES_MOST + Math.max(one, other);
            boolean comes = (near[one] >> other & 1) == 0;
            near[one] ^= 1 << other;
            near[other] ^= 1 << one;
            if (comes) {
                insertEdge(edges, told);
                return NONE;
            }
            int place = 0;
            for (int i = 0; i < edges; i++) {
                if (order[i] == told) {
                    place = i;
                }
            }
            for (int i = place; i + 1 < edges; i++) {
                order[i] = order[i + 1];
            }
            edges--;
            return place;
        }

        private void insertEdge(int place, int told) {
            if (edges >= EDGES_MOST) {
                return;
            }
            for (int i = edges; i > place; i--) {
                order[i] = order[i - 1];
            }
            order[place] = told;
            edges++;
        }

        /** An edge that was taken away stands again where it stood in the order. */
        void restoreEdge(int one, int other, int place) {
            near[one] |= 1 << other;
            near[other] |= 1 << one;
            insertEdge(place, Math.min(one, other) * NODES_MOST + Math.max(one, other));
        }

        void toggleLink(int one, int other) {
            tied[one] ^= 1 << other;
            tied[other] ^= 1 << one;
        }
    }

    /** The four acts on a board, and the latest of them, so that they can be taken back. */
    private static final class Acts {
        static final int JOINED = 0;
        static final int TIED = 1;
        static final int PAINTED = 2;
        static final int DYED = 3;
        static final int KEPT_MOST = 16;

        int held;
        final int[] sort = new int[KEPT_MOST];
        final int[] one = new int[KEPT_MOST];
        final int[] other = new int[KEPT_MOST];
        final int[] was = new int[KEPT_MOST];

        void clearAll() {
            held = 0;
        }

        void copyFrom(Acts from) {
            held = from.held;
            System.arraycopy(from.sort, 0, sort, 0, KEPT_MOST);
            System.arraycopy(from.one, 0, one, 0, KEPT_MOST);
            System.arraycopy(from.other, 0, other, 0, KEPT_MOST);
            System.arraycopy(from.was, 0, was, 0, KEPT_MOST);
        }

        private void note(int itsSort, int first, int second, int before) {
            if (held >= KEPT_MOST) {
                dropOldest();
            }
            sort[held] = itsSort;
            one[held] = first;
            other[held] = second;
            was[held] = before;
            held++;
        }

        private void dropOldest() {
            held = KEPT_MOST - 1;
            System.arraycopy(sort, 1, sort, 0, held);
            System.arraycopy(one, 1, one, 0, held);
            System.arraycopy(other, 1, other, 0, held);
            System.arraycopy(was, 1, was, 0, held);
        }

        int joinNodes(Board board, int first, int second) {
            if (first == second) {
                return BAD_NUMBER;
            }
            if (!board.hasNode(first) || !board.hasNode(second)) {
                return NO_SUCH;
            }
            int place = board.toggleEdge(first, second);
            note(JOINED, first, second, place);
            return place == NONE ? 1 : 0;
        }

        int tieVertices(Board board, int first, int second) {
            if (first == second) {
                return BAD_NUMBER;
            }
            if (!board.hasVertex(first) || !board.hasVertex(second)) {
                return NO_SUCH;
            }
            board.toggleLink(first, second);
            note(TIED, first, second, NONE);
            return board.tied[first] >> second & 1;
        }

        int paintNode(Board board, int n, int colour) {
            if (colour < 0 || colour >= COLOURS) {
                return BAD_NUMBER;
            }
            if (!board.hasNode(n)) {
                return NO_SUCH;
            }
            int before = board.colour[n];
            if (before == colour) {
                return NOT_SO_NOW;
            }
            board.colour[n] = colour;
            note(PAINTED, n, NONE, before);
            return before;
        }

        int dyeVertex(Board board, int v, int colour) {
            if (colour < 0 || colour > ANY_COLOUR) {
                return BAD_NUMBER;
            }
            if (!board.hasVertex(v)) {
                return NO_SUCH;
            }
            int before = board.hue[v];
            if (before == colour) {
                return NOT_SO_NOW;
            }
            board.hue[v] = colour;
            note(DYED, v, NONE, before);
            return before;
        }

        /** The sort of the latest act, which is no more. */
        int takeBack(Board board) {
            if (held <= 0) {
                return NOT_SO_NOW;
            }
            held--;
            int first = one[held];
            switch (sort[held]) {
                case JOINED:
                    takeBackJoin(board, first, other[held], was[held]);
                    break;
                case TIED:
                    board.toggleLink(first, other[held]);
                    break;
                case PAINTED:
                    board.colour[first] = was[held];
                    break;
                default:
                    board.hue[first] = was[held];
                    break;
            }
            return sort[held];
        }

        private void takeBackJoin(Board board, int first, int second, int place) {
            if (place == NONE) {
                board.toggleEdge(first, second);
            } else {
                board.restoreEdge(first, second, place);
            }
        }
    }

    /** The bytes that were fed, and the token of them that is looked at. */
    private static final class Tape {
        static final int AT_END = 0;
        static final int WORD = 1;
        static final int NUMBER = 2;
        static final int SIGN = 3;
        static final int BLANK = 32;
        /** Above every number that a text may hold, and far below an overflow. */
        static final int TOO_MUCH = 1_001;

        final int[] bytes = new int[TAPE_MOST];
        int length;
        int textLength;
        int from;
        int to;
        int sort;
        int number;

        void addFour(int packed) {
            for (int shift = 24; shift >= 0; shift -= 8) {
                if (length < TAPE_MOST) {
                    bytes[length] = packed >>> shift & 255;
                    length++;
                }
            }
        }

        /** The text is read from its first token on; the tape is empty for what is fed later. */
        void takeText() {
            textLength = length;
            length = 0;
            to = 0;
            step();
        }

        void step() {
            from = to;
            while (from < textLength && bytes[from] == BLANK) {
                from++;
            }
            to = from;
            sort = from < textLength ? sortOf(bytes[from]) : AT_END;
            if (sort == SIGN) {
                to++;
                return;
            }
            number = 0;
            while (to < textLength && sortOf(bytes[to]) == sort) {
                number = Math.min(TOO_MUCH, number * 10 + bytes[to] - '0');
                to++;
            }
        }

        private static int sortOf(int letter) {
            if (letter >= 'a' && letter <= 'z') {
                return WORD;
            }
            return letter >= '0' && letter <= '9' ? NUMBER : SIGN;
        }

        boolean isSign(char sign) {
            return sort == SIGN && bytes[from] == sign;
        }

        boolean isWord(String word) {
            if (sort != WORD || to - from != word.length()) {
                return false;
            }
            for (int i = 0; i < word.length(); i++) {
                if (bytes[from + i] != word.charAt(i)) {
                    return false;
                }
            }
            return true;
        }

        boolean isNumber(int least, int most) {
            return sort == NUMBER && number >= least && number <= most;
        }
    }

    /** A text that was read: a table of its clauses, and the code of their sums and tests. */
    private static final class Program {
        static final int COSTS = 4;
        static final int BARS = 5;
        static final int SORT = 0;
        static final int FIRST = 1;
        static final int SECOND = 3;
        static final int TEST = 5;
        static final int TIMES = 7;
        static final int WIDTH = 8;
        /** 50 parts, fewer than 50 signs between them, and no more than 100 times "not". */
        static final int CODE_MOST = 256;

        static final int NUMBER = 0;
        static final int WORD = 1;
        static final int ADD = 2;
        static final int TAKE = 3;
        static final int MULTIPLY = 4;
        static final int DIVIDE = 5;
        static final int REST = 6;
        static final int LESS = 7;
        static final int MORE = 8;
        static final int SAME = 9;
        static final int NOT = 10;
        static final int AND = 11;
        static final int OR = 12;
        static final int OPERAND_BITS = 12;

        static final long VALUE_MOST = 1_000_000_000L;
        /** Just beyond all that a sum may come to. */
        static final long BROKEN = -VALUE_MOST - 1;

        int clauses;
        int length;
        final int[] table;
        final int[] code;

        Program(int tableSize, int codeSize) {
            table = new int[tableSize];
            code = new int[codeSize];
        }

        void clearAll() {
            clauses = 0;
            length = 0;
        }

        Program trimmed() {
            Program copy = new Program(clauses * WIDTH, length);
            copy.clauses = clauses;
            copy.length = length;
            System.arraycopy(table, 0, copy.table, 0, clauses * WIDTH);
            System.arraycopy(code, 0, copy.code, 0, length);
            return copy;
        }

        void addClause(int sort) {
            int at = clauses * WIDTH;
            if (at + WIDTH > table.length) {
                return;
            }
            Arrays.fill(table, at, at + WIDTH, 0);
            table[at + SORT] = sort;
            table[at + TIMES] = 1;
            clauses++;
        }

        int tell(int clause, int what) {
            int at = clause * WIDTH + what;
            return at >= 0 && at < table.length ? table[at] : 0;
        }

        /** Of the clause that came last. */
        void set(int what, int value) {
            int at = (clauses - 1) * WIDTH + what;
            if (at >= 0 && at < table.length) {
                table[at] = value;
            }
        }

        /** Where it stands. */
        int emit(int operation, int operand) {
            if (length >= code.length) {
                return NONE;
            }
            code[length] = operation << OPERAND_BITS | operand;
            return length++;
        }

        /** A jump that was emitted leads behind all that stands now. */
        void aim(int jump) {
            if (jump >= 0 && jump < length) {
                code[jump] |= length;
            }
        }

        boolean mentions(int word) {
            for (int i = 0; i < length; i++) {
                if (code[i] == (WORD << OPERAND_BITS | word)) {
                    return true;
                }
            }
            return false;
        }

        boolean has(int clause, int part) {
            return tell(clause, part + 1) > tell(clause, part);
        }

        /** What a sum comes to, whether a test is so (1, 0), or BROKEN. */
        long ask(int clause, int part, int[] words, long[] stack) {
            int top = 0;
            int end = Math.min(tell(clause, part + 1), length);
            for (int i = tell(clause, part); i < end; i++) {
                int operation = code[i] >> OPERAND_BITS;
                int operand = code[i] & (1 << OPERAND_BITS) - 1;
                if (operation <= WORD) {
                    if (top >= stack.length || operation == WORD && operand >= words.length) {
                        return BROKEN;
                    }
                    stack[top] = operation == WORD ? words[operand] : operand;
                    top++;
                } else if (top < (operation < NOT ? 2 : 1)) {
                    return BROKEN;
                } else if (operation == NOT) {
                    stack[top - 1] = 1 - stack[top - 1];
                } else if (operation > NOT) {
                    boolean settled = stack[top - 1] == (operation == OR ? 1 : 0);
                    if (settled) {
                        i = Math.max(i, operand - 1);
                    } else {
                        top--;
                    }
                } else {
                    top--;
                    long value = combine(operation, stack[top - 1], stack[top]);
                    if (value > VALUE_MOST || value < -VALUE_MOST) {
                        return BROKEN;
                    }
                    stack[top - 1] = value;
                }
            }
            return top > 0 ? stack[top - 1] : BROKEN;
        }

        private static long combine(int operation, long left, long right) {
            switch (operation) {
                case ADD:
                    return left + right;
                case TAKE:
                    return left - right;
                case MULTIPLY:
                    return left * right;
                case DIVIDE:
                    return right == 0 ? BROKEN : left / right;
                case REST:
                    return right == 0 ? BROKEN : left % right;
                case LESS:
                    return left < right ? 1 : 0;
                case MORE:
                    return left > right ? 1 : 0;
                default:
                    return left == right ? 1 : 0;
            }
        }
    }

    /** Reads the tape as a law or as orders, into a draft that is used again. */
    private static final class Reader {
        static final int PARTS_MOST = 50;
        static final int BRACKETS_MOST = 8;
        static final int NUMBER_MOST = 1_000;
        static final int TIMES_MOST = 20;

        final Tape tape = new Tape();
        final Program draft = new Program(CLAUSES_MOST * Program.WIDTH, Program.CODE_MOST);
        boolean isOrders;
        int parts;
        int faultAt = NONE;

        private boolean fail() {
            faultAt = tape.from;
            return false;
        }

        /** The tape is empty then; faultAt tells what was wrong. */
        boolean readText(boolean asOrders) {
            isOrders = asOrders;
            parts = 0;
            faultAt = NONE;
            draft.clearAll();
            tape.takeText();
            for (int clause = 0; clause < CLAUSES_MOST; clause++) {
                boolean isRead = isOrders ? readOrder() : readRule();
                if (!isRead || !readCondition()) {
                    return false;
                }
                if (tape.sort == Tape.AT_END) {
                    return true;
                }
                if (!tape.isSign(';')) {
                    return fail();
                }
                tape.step();
            }
            return fail();
        }

        private boolean readRule() {
            boolean costs = tape.isWord("costs");
            if (!costs && !tape.isWord("bars")) {
                return fail();
            }
            draft.addClause(costs ? Program.COSTS : Program.BARS);
            tape.step();
            return !costs || readWholeSum(Program.FIRST);
        }

        private boolean readOrder() {
            int sort = orderSort();
            if (sort == NONE) {
                return fail();
            }
            draft.addClause(sort);
            tape.step();
            if (!readWholeSum(Program.FIRST)) {
                return false;
            }
            if (!tape.isWord(sort == Acts.JOINED || sort == Acts.TIED ? "to" : "as")) {
                return fail();
            }
            tape.step();
            return readWholeSum(Program.SECOND) && readTimes();
        }

        private int orderSort() {
            if (tape.isWord("join")) {
                return Acts.JOINED;
            }
            if (tape.isWord("tie")) {
                return Acts.TIED;
            }
            if (tape.isWord("paint")) {
                return Acts.PAINTED;
            }
            return tape.isWord("dye") ? Acts.DYED : NONE;
        }

        private boolean readTimes() {
            if (!tape.isWord("times")) {
                return true;
            }
            tape.step();
            if (!tape.isNumber(1, TIMES_MOST)) {
                return fail();
            }
            draft.set(Program.TIMES, tape.number);
            tape.step();
            return true;
        }

        private boolean readWholeSum(int which) {
            draft.set(which, draft.length);
            if (!readSum(0)) {
                return false;
            }
            draft.set(which + 1, draft.length);
            return true;
        }

        private boolean readCondition() {
            if (!tape.isWord("if")) {
                return true;
            }
            tape.step();
            draft.set(Program.TEST, draft.length);
            if (!readTest(0)) {
                return false;
            }
            draft.set(Program.TEST + 1, draft.length);
            return true;
        }

        private boolean readTest(int depth) {
            if (!readBoth(depth)) {
                return false;
            }
            for (int i = 0; i < TAPE_MOST && tape.isWord("or"); i++) {
                tape.step();
                int jump = draft.emit(Program.OR, 0);
                if (!readBoth(depth)) {
                    return false;
                }
                draft.aim(jump);
            }
            return true;
        }

        private boolean readBoth(int depth) {
            if (!readPlain(depth)) {
                return false;
            }
            for (int i = 0; i < TAPE_MOST && tape.isWord("and"); i++) {
                tape.step();
                int jump = draft.emit(Program.AND, 0);
                if (!readPlain(depth)) {
                    return false;
                }
                draft.aim(jump);
            }
            return true;
        }

        private boolean readPlain(int depth) {
            boolean turned = readNots();
            if (tape.isSign('(')) {
                if (!readInBrackets(depth)) {
                    return false;
                }
            } else {
                if (!readSum(depth)) {
                    return false;
                }
                int comparison = comparisonHere();
                if (comparison == NONE) {
                    return fail();
                }
                tape.step();
                if (!readSum(depth)) {
                    return false;
                }
                draft.emit(comparison, 0);
            }
            if (turned) {
                draft.emit(Program.NOT, 0);
            }
            return true;
        }

        /** Whether they turn what comes; counted, not nested, as a hundred could stand in a row. */
        private boolean readNots() {
            boolean turned = false;
            for (int i = 0; i < TAPE_MOST && tape.isWord("not"); i++) {
                tape.step();
                turned = !turned;
            }
            return turned;
        }

        private boolean readInBrackets(int depth) {
            if (depth >= BRACKETS_MOST) {
                return fail();
            }
            tape.step();
            if (!readTest(depth + 1)) {
                return false;
            }
            if (!tape.isSign(')')) {
                return fail();
            }
            tape.step();
            return true;
        }

        private int comparisonHere() {
            if (tape.isSign('<')) {
                return Program.LESS;
            }
            if (tape.isSign('>')) {
                return Program.MORE;
            }
            return tape.isSign('=') ? Program.SAME : NONE;
        }

        private boolean readSum(int depth) {
            if (!readTerm(depth)) {
                return false;
            }
            for (int i = 0; i < TAPE_MOST && (tape.isSign('+') || tape.isSign('-')); i++) {
                int operation = tape.isSign('+') ? Program.ADD : Program.TAKE;
                tape.step();
                if (!readTerm(depth)) {
                    return false;
                }
                draft.emit(operation, 0);
            }
            return true;
        }

        private boolean readTerm(int depth) {
            if (!readPart(depth)) {
                return false;
            }
            for (int i = 0; i < TAPE_MOST; i++) {
                int operation = termSign();
                if (operation == NONE) {
                    return true;
                }
                tape.step();
                if (!readPart(depth)) {
                    return false;
                }
                draft.emit(operation, 0);
            }
            return true;
        }

        private int termSign() {
            if (tape.isSign('*')) {
                return Program.MULTIPLY;
            }
            if (tape.isSign('/')) {
                return Program.DIVIDE;
            }
            return tape.isSign('%') ? Program.REST : NONE;
        }

        private boolean readSumInBrackets(int depth) {
            if (depth >= BRACKETS_MOST) {
                return fail();
            }
            tape.step();
            if (!readSum(depth + 1)) {
                return false;
            }
            if (!tape.isSign(']')) {
                return fail();
            }
            tape.step();
            return true;
        }

        private boolean readPart(int depth) {
            if (tape.isSign('[')) {
                return readSumInBrackets(depth);
            }
            if (parts >= PARTS_MOST) {
                return fail();
            }
            parts++;
            if (tape.isNumber(0, NUMBER_MOST)) {
                draft.emit(Program.NUMBER, tape.number);
                tape.step();
                return true;
            }
            int word = isOrders ? Runner.wordHere(tape) : Ledger.wordHere(tape);
            if (word == NONE) {
                return fail();
            }
            tape.step();
            if (isOrders && word == Runner.DEGREES) {
                if (!tape.isNumber(0, NODES_MOST - 1)) {
                    return fail();
                }
                word += tape.number;
                tape.step();
            }
            draft.emit(Program.WORD, word);
            return true;
        }
    }

    /** What it costs to lay each vertex on each node, and whether it may lie there. */
    private static final class Ledger {
        static final int VERTEX = 0;
        static final int NODE = 1;
        static final int COLOUR = 2;
        static final int DEGREE = 3;
        static final int LINKS = 4;
        static final int TIME_NOW = 5;
        static final int MOOD_NOW = 6;
        static final int WORDS = 7;
        static final int COST_MOST = 99;
        static final int STACK = 64;

        final int[] may = new int[VERTICES_MOST];
        final int[] cost = new int[VERTICES_MOST * NODES_MOST];
        final int[] words = new int[WORDS];
        final long[] stack = new long[STACK];

        static int wordHere(Tape tape) {
            if (tape.isWord("vertex")) {
                return VERTEX;
            }
            if (tape.isWord("node")) {
                return NODE;
            }
            if (tape.isWord("colour")) {
                return COLOUR;
            }
            if (tape.isWord("degree")) {
                return DEGREE;
            }
            if (tape.isWord("links")) {
                return LINKS;
            }
            if (tape.isWord("time")) {
                return TIME_NOW;
            }
            return tape.isWord("mood") ? MOOD_NOW : NONE;
        }

        /** Without a law (null) all costs 1, and nothing is barred. */
        void fill(Board board, Program law) {
            words[TIME_NOW] = board.term[TIME];
            words[MOOD_NOW] = board.term[MOOD];
            for (int v = 0; v < board.vertices; v++) {
                may[v] = 0;
                words[VERTEX] = v;
                words[LINKS] = board.linksOf(v);
                for (int n = 0; n < board.nodes; n++) {
                    words[NODE] = n;
                    words[COLOUR] = board.colour[n];
                    words[DEGREE] = board.degreeOf(n);
                    cost[v * NODES_MOST + n] = 1;
                    boolean barred = law != null && weigh(law, v * NODES_MOST + n);
                    boolean alike = board.hue[v] == ANY_COLOUR || board.hue[v] == board.colour[n];
                    if (alike && !barred) {
                        may[v] |= 1 << n;
                    }
                }
            }
        }

        /** Writes the cost: whether it is barred. */
        private boolean weigh(Program law, int pair) {
            boolean barred = false;
            for (int c = 0; c < law.clauses; c++) {
                if (law.has(c, Program.TEST) && law.ask(c, Program.TEST, words, stack) != 1) {
                    continue;
                }
                if (law.tell(c, Program.SORT) == Program.BARS) {
                    barred = true;
                    continue;
                }
                long price = law.ask(c, Program.FIRST, words, stack);
                if (price != Program.BROKEN) {
                    cost[pair] = (int) Math.max(0, Math.min(COST_MOST, price));
                }
            }
            return barred;
        }

        /** Each vertex may lie alone where it was seen. */
        void keepToSights(Board board) {
            for (int i = 0; i < board.sights; i++) {
                int v = board.sight[i] / NODES_MOST;
                may[v] &= 1 << board.sight[i] % NODES_MOST;
            }
        }
    }

    /** Walks through all ways in their order; vertices rising, each on the nodes it may lie on. */
    private static final class Walker {
        final int[] place = new int[VERTICES_MOST];
        final int[] left = new int[VERTICES_MOST];
        final int[] cheapest = new int[VERTICES_MOST];
        final int[] met = new int[SETS_MOST];
        final int[] tally = new int[VERTICES_MOST * NODES_MOST];
        Board board;
        int[] able;
        int level;
        int taken;
        int steps;
        boolean isEmptyWayDue;

        void start(Board itsBoard, int[] allowed) {
            board = itsBoard;
            able = allowed;
            taken = 0;
            steps = 0;
            level = -1;
            isEmptyWayDue = board.vertices == 0;
            if (board.vertices > 0) {
                enter(0);
            }
        }

        private void enter(int v) {
            int open = able[v] & ~taken;
            int tied = board.tied[v];
            for (int u = 0; u < v; u++) {
                if ((tied >> u & 1) == 1) {
                    open &= board.near[place[u]];
                }
            }
            left[v] = open;
            level = v;
            steps += Integer.bitCount(open);
        }

        /** On to the next way, in place; false if there is none. */
        boolean advance() {
            if (isEmptyWayDue) {
                isEmptyWayDue = false;
                return true;
            }
            for (int i = 0; i < MOVES_MOST && level >= 0; i++) {
                if (left[level] == 0) {
                    leave();
                    continue;
                }
                int n = Integer.numberOfTrailingZeros(left[level]);
                left[level] &= left[level] - 1;
                place[level] = n;
                if (level == board.vertices - 1) {
                    return true;
                }
                taken |= 1 << n;
                enter(level + 1);
            }
            return false;
        }

        private void leave() {
            level--;
            if (level >= 0) {
                taken &= ~(1 << place[level]);
            }
        }

        /** How many ways behind the present one differ from it in the last vertex alone. */
        private int alikeBehind() {
            return level >= 0 ? Integer.bitCount(left[level]) : 0;
        }

        private void skipAlike() {
            if (level >= 0) {
                left[level] = 0;
            }
        }

        int countAll() {
            int all = 0;
            for (int i = 0; i < MOVES_MOST && advance(); i++) {
                all += 1 + alikeBehind();
                skipAlike();
            }
            return all;
        }

        int countSteps() {
            countAll();
            return steps;
        }

        /** On to the way with this number; false if there is none. */
        boolean goTo(int number) {
            if (number < 0) {
                return false;
            }
            int first = 0;
            for (int i = 0; i < MOVES_MOST && advance(); i++) {
                int behind = alikeBehind();
                if (number <= first + behind) {
                    for (int k = first; k < number; k++) {
                        advance();
                    }
                    return true;
                }
                first += 1 + behind;
                skipAlike();
            }
            return false;
        }

        /** The least cost, NONE without ways; the first such way is kept in cheapest. */
        int findCheapest(int[] cost) {
            int least = NONE;
            for (int i = 0; i < MOVES_MOST && advance(); i++) {
                int sum = 0;
                for (int v = 0; v < board.vertices; v++) {
                    sum += cost[v * NODES_MOST + place[v]];
                }
                if (least == NONE || sum < least) {
                    least = sum;
                    System.arraycopy(place, 0, cheapest, 0, VERTICES_MOST);
                }
            }
            return least;
        }

        private int nodesOfWay() {
            int nodes = 0;
            for (int v = 0; v < board.vertices; v++) {
                nodes |= 1 << place[v];
            }
            return nodes;
        }

        int countSets(int first) {
            int sets = 0;
            for (int i = 0; i < first && sets < SETS_MOST && advance(); i++) {
                int nodes = nodesOfWay();
                boolean known = false;
                for (int k = 0; k < sets; k++) {
                    known |= met[k] == nodes;
                }
                if (!known) {
                    met[sets] = nodes;
                    sets++;
                }
            }
            return sets;
        }

        int touchedNodes() {
            int nodes = 0;
            for (int i = 0; i < MOVES_MOST && advance(); i++) {
                nodes |= nodesOfWay() | (level >= 0 ? left[level] : 0);
                skipAlike();
            }
            return nodes;
        }

        /** The vertex whose node, once it is known, leaves the fewest ways at most. */
        int findTelling() {
            Arrays.fill(tally, 0);
            for (int i = 0; i < MOVES_MOST && advance(); i++) {
                for (int v = 0; v < board.vertices; v++) {
                    tally[v * NODES_MOST + place[v]]++;
                }
            }
            int found = NONE;
            for (int v = 0; v < board.vertices; v++) {
                boolean fewer = found == NONE || mostOnOneNode(v) < mostOnOneNode(found);
                if (mostOnOneNode(v) > 0 && fewer) {
                    found = v;
                }
            }
            return found;
        }

        int mostOnOneNode(int v) {
            int most = 0;
            for (int n = 0; n < NODES_MOST; n++) {
                most = Math.max(most, tally[v * NODES_MOST + n]);
            }
            return most;
        }
    }

    /** Shrinks the candidates of all vertices by passes there and back. */
    private static final class Sieve {
        final int[] able = new int[VERTICES_MOST];
        final int[] line = new int[VERTICES_MOST];

        void sift(Board board, int[] may, int passes) {
            for (int v = 0; v < board.vertices; v++) {
                able[v] = atFirst(board, v, may[v]);
            }
            lineUp(board);
            for (int pass = 1; pass <= passes; pass++) {
                boolean fromEnd = pass % 2 == 1;
                for (int i = 0; i < board.vertices; i++) {
                    shrink(board, line[fromEnd ? board.vertices - 1 - i : i]);
                }
            }
        }

        private static int atFirst(Board board, int v, int allowed) {
            int nodes = 0;
            for (int n = 0; n < board.nodes; n++) {
                if (board.degreeOf(n) >= board.linksOf(v)) {
                    nodes |= 1 << n;
                }
            }
            return nodes & allowed;
        }

        private void lineUp(Board board) {
            int in = 0;
            int filled = 0;
            for (int i = 0; i < board.vertices; i++) {
                if (i == filled) {
                    line[filled] = fewestOutside(board, in);
                    in |= 1 << line[filled];
                    filled++;
                }
                int coming = board.tied[line[i]] & ~in;
                for (int v = 0; v < board.vertices && filled < VERTICES_MOST; v++) {
                    if ((coming >> v & 1) == 1) {
                        line[filled] = v;
                        filled++;
                    }
                }
                in |= coming;
            }
        }

        private int fewestOutside(Board board, int in) {
            int found = NONE;
            for (int v = 0; v < board.vertices; v++) {
                boolean fewer = found == NONE || Integer.bitCount(able[v]) < Integer.bitCount(able[found]);
                if ((in >> v & 1) == 0 && fewer) {
                    found = v;
                }
            }
            return Math.max(found, 0);
        }

        private void shrink(Board board, int v) {
            for (int n = 0; n < board.nodes; n++) {
                for (int u = 0; u < board.vertices; u++) {
                    boolean linked = (board.tied[v] >> u & 1) == 1;
                    if (linked && (board.near[n] & able[u]) == 0) {
                        able[v] &= ~(1 << n);
                    }
                }
            }
        }
    }

    /** The search that goes on with the vertex that could be laid on fewest nodes. */
    private static final class Hunt {
        final int[] place = new int[VERTICES_MOST];
        Board board;
        int[] able;
        int taken;
        int lying;
        int stepsMost;
        int steps;
        int laid;

        void search(Board itsBoard, int[] candidates, int limit) {
            board = itsBoard;
            able = candidates;
            stepsMost = limit;
            taken = 0;
            lying = 0;
            steps = 0;
            laid = 0;
            if (board.vertices == 0) {
                laid = 1;
            } else {
                goOn(0);
            }
        }

        private void goOn(int depth) {
            if (depth >= board.vertices) {
                return;
            }
            int v = nextVertex();
            int open = openTo(v);
            if (depth == board.vertices - 1) {
                int more = Math.min(Integer.bitCount(open), stepsMost - steps);
                steps += more;
                laid += more;
                return;
            }
            lying |= 1 << v;
            tryAll(v, open, depth);
            lying &= ~(1 << v);
        }

        private void tryAll(int v, int open, int depth) {
            for (int n = 0; n < board.nodes && steps < stepsMost; n++) {
                if ((open >> n & 1) == 1) {
                    steps++;
                    place[v] = n;
                    taken |= 1 << n;
                    goOn(depth + 1);
                    taken &= ~(1 << n);
                }
            }
        }

        private int nextVertex() {
            int found = 0;
            int fewest = NODES_MOST + 1;
            for (int v = 0; v < board.vertices; v++) {
                if ((lying >> v & 1) == 0) {
                    int open = Integer.bitCount(openTo(v));
                    if (open < fewest) {
                        fewest = open;
                        found = v;
                    }
                }
            }
            return found;
        }

        private int openTo(int v) {
            int open = able[v] & ~taken;
            int tied = board.tied[v] & lying;
            for (int u = 0; u < board.vertices; u++) {
                if ((tied >> u & 1) == 1) {
                    open &= board.near[place[u]];
                }
            }
            return open;
        }
    }

    /** What is alike: symmetries and twins of the pattern, kinds of nodes. */
    private static final class Likeness {
        static final int SYMMETRIES_MOST = 120;

        final int[] mirror = new int[SYMMETRIES_MOST * VERTICES_MOST];
        final int[] trial = new int[VERTICES_MOST];
        int symmetries;
        int vertices;
        final int[] kindOf = new int[NODES_MOST];
        final int[] kindNext = new int[NODES_MOST];
        final int[] edgesTo = new int[NODES_MOST * NODES_MOST];

        int twinsOf(Board board, int v) {
            int twins = 0;
            for (int u = 0; u < board.vertices; u++) {
                int others = ~(1 << u | 1 << v);
                boolean sameLinks = (board.tied[u] & others) == (board.tied[v] & others);
                if (u != v && board.hue[u] == board.hue[v] && sameLinks) {
                    twins |= 1 << u;
                }
            }
            return twins;
        }

        void findSymmetries(Board board) {
            symmetries = 0;
            vertices = board.vertices;
            extend(board, 0, 0);
        }

        private void extend(Board board, int depth, int used) {
            if (depth >= vertices) {
                keepTrial();
            } else {
                tryAll(board, depth, used);
            }
        }

        private void tryAll(Board board, int depth, int used) {
            for (int u = 0; u < vertices; u++) {
                if ((used >> u & 1) == 0 && canStandFor(board, u, depth)) {
                    trial[depth] = u;
                    extend(board, depth + 1, used | 1 << u);
                }
            }
        }

        private boolean canStandFor(Board board, int u, int v) {
            if (board.hue[u] != board.hue[v]) {
                return false;
            }
            for (int w = 0; w < v; w++) {
                if ((board.tied[u] >> trial[w] & 1) != (board.tied[v] >> w & 1)) {
                    return false;
                }
            }
            return true;
        }

        private void keepTrial() {
            if (symmetries < SYMMETRIES_MOST) {
                System.arraycopy(trial, 0, mirror, symmetries * VERTICES_MOST, VERTICES_MOST);
                symmetries++;
            }
        }

        /** Whether no symmetry makes an earlier way of this one. */
        boolean isFirst(int[] place, int[] may) {
            for (int s = 0; s < symmetries; s++) {
                if (comesEarlier(s * VERTICES_MOST, place) && isWay(s * VERTICES_MOST, place, may)) {
                    return false;
                }
            }
            return true;
        }

        private boolean comesEarlier(int from, int[] place) {
            for (int v = 0; v < vertices; v++) {
                int n = place[mirror[from + v]];
                if (n != place[v]) {
                    return n < place[v];
                }
            }
            return false;
        }

        /** A symmetry keeps the links, so only a law can bar what it makes. */
        private boolean isWay(int from, int[] place, int[] may) {
            for (int v = 0; v < vertices; v++) {
                if ((may[v] >> place[mirror[from + v]] & 1) == 0) {
                    return false;
                }
            }
            return true;
        }

        /** How many kinds there are; those of the nodes stand in kindOf. */
        int tellKinds(Board board, int rounds) {
            Arrays.fill(kindOf, 0);
            System.arraycopy(board.colour, 0, kindOf, 0, board.nodes);
            Arrays.fill(edgesTo, 0);
            int kinds = numberKinds(board.nodes);
            for (int round = 0; round < rounds; round++) {
                countEdges(board);
                kinds = numberKinds(board.nodes);
            }
            return kinds;
        }

        private void countEdges(Board board) {
            Arrays.fill(edgesTo, 0);
            for (int n = 0; n < board.nodes; n++) {
                for (int m = 0; m < board.nodes; m++) {
                    edgesTo[n * NODES_MOST + kindOf[m]] += board.near[n] >> m & 1;
                }
            }
        }

        /** Nodes are told apart by what they were and the edges that were counted. */
        private int numberKinds(int nodes) {
            int kinds = 0;
            for (int n = 0; n < nodes; n++) {
                int like = firstLike(n);
                if (like == n) {
                    kindNext[n] = kinds;
                    kinds++;
                } else {
                    kindNext[n] = kindNext[like];
                }
            }
            System.arraycopy(kindNext, 0, kindOf, 0, nodes);
            return kinds;
        }

        private int firstLike(int n) {
            for (int m = 0; m < n; m++) {
                boolean alike = kindOf[m] == kindOf[n];
                for (int k = 0; k < NODES_MOST && alike; k++) {
                    alike = edgesTo[m * NODES_MOST + k] == edgesTo[n * NODES_MOST + k];
                }
                if (alike) {
                    return m;
                }
            }
            return n;
        }
    }

    /** Runs orders wholly or not at all. */
    private static final class Runner {
        static final int TIME_NOW = 0;
        static final int DONE = 1;
        static final int LATEST = 2;
        static final int EDGES = 3;
        static final int WAYS = 4;
        static final int DEGREES = 5;

        Board board;
        Acts acts;
        Ledger ledger;
        Walker walker;
        final Board boardBefore = new Board();
        final Acts actsBefore = new Acts();
        final int[] words = new int[DEGREES + NODES_MOST];
        int done;
        int latest;
        int stoppedAt = NONE;

        void start(Board itsBoard, Acts itsActs, Ledger itsLedger, Walker itsWalker) {
            board = itsBoard;
            acts = itsActs;
            ledger = itsLedger;
            walker = itsWalker;
            done = 0;
            latest = NONE;
        }

        static int wordHere(Tape tape) {
            if (tape.isWord("time")) {
                return TIME_NOW;
            }
            if (tape.isWord("done")) {
                return DONE;
            }
            if (tape.isWord("latest")) {
                return LATEST;
            }
            if (tape.isWord("edges")) {
                return EDGES;
            }
            if (tape.isWord("ways")) {
                return WAYS;
            }
            return tape.isWord("degree") ? DEGREES : NONE;
        }

        /** False if one could not be: all is as it was then. */
        boolean runAll(Program orders) {
            boardBefore.copyFrom(board);
            actsBefore.copyFrom(acts);
            // counting ways is dear: only where they are asked for, and behind a change
            boolean asksWays = orders.mentions(WAYS);
            refreshWords(asksWays);
            for (int c = 0; c < orders.clauses; c++) {
                int times = orders.tell(c, Program.TIMES);
                for (int i = 0; i < times && isMeant(orders, c); i++) {
                    if (!runOnce(orders, c)) {
                        stoppedAt = c;
                        board.copyFrom(boardBefore);
                        acts.copyFrom(actsBefore);
                        return false;
                    }
                    refreshWords(asksWays);
                }
            }
            return true;
        }

        private void refreshWords(boolean asksWays) {
            words[TIME_NOW] = board.term[TIME];
            words[DONE] = done;
            words[LATEST] = latest;
            words[EDGES] = board.edges;
            for (int n = 0; n < NODES_MOST; n++) {
                words[DEGREES + n] = board.degreeOf(n);
            }
            if (asksWays) {
                ledger.fill(board, board.lawInForce());
                walker.start(board, ledger.may);
                words[WAYS] = walker.countAll();
            }
        }

        private boolean isMeant(Program orders, int clause) {
            return !orders.has(clause, Program.TEST)
                || orders.ask(clause, Program.TEST, words, ledger.stack) == 1;
        }

        private boolean runOnce(Program orders, int clause) {
            long first = orders.ask(clause, Program.FIRST, words, ledger.stack);
            long second = orders.ask(clause, Program.SECOND, words, ledger.stack);
            if (first == Program.BROKEN || second == Program.BROKEN) {
                return false;
            }
            int told = act(orders.tell(clause, Program.SORT), (int) first, (int) second);
            if (told < 0) {
                return false;
            }
            latest = told;
            done++;
            return true;
        }

        private int act(int sort, int first, int second) {
            switch (sort) {
                case Acts.JOINED:
                    return acts.joinNodes(board, first, second);
                case Acts.TIED:
                    return acts.tieVertices(board, first, second);
                case Acts.PAINTED:
                    return acts.paintNode(board, first, second);
                default:
                    return acts.dyeVertex(board, first, second);
            }
        }
    }
}
