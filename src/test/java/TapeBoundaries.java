/** Promises 9 to 12: the tape is fed, cut, and read as a row of edges. */
final class TapeBoundaries extends TestKit {
    private static final int LEAST = Integer.MIN_VALUE;
    private static final int MOST = Integer.MAX_VALUE;

    private static void feedZeros(SubgraphDesk x, int times) {
        for (int i = 0; i < times; i++) {
            ask(x, "feed", 0, 0, 0, 0, 0);
        }
    }

    private static int row(SubgraphDesk x, int... bytes) {
        StringBuilder b = new StringBuilder();
        for (int one : bytes) {
            b.append((char) one);
        }
        write(x, b.toString());
        return (int) ask(x, "row");
    }

    // ---- promise 9

    static void p09_fourHundredBytesFit() {
        sentence("Twenty bytes come behind the TAPE, four of each number, the highest first: how many it has. "
            + "NONE, if there would be more than 400.");
        SubgraphDesk x = new SubgraphDesk();
        for (int i = 1; i <= 20; i++) {
            due(x, 20 * i, "feed", 0, 0, 0, 0, 0);
        }
        none(x, "feed", 0, 0, 0, 0, 0);
        due(x, 400, "count", 7);
    }

    static void p09_oneByteTooMany() {
        sentence("TEXTS are on a TAPE of at most 400 bytes.");
        SubgraphDesk x = new SubgraphDesk();
        feedZeros(x, 20);
        ask(x, "end", 381);
        none(x, "feed", 1, 2, 3, 4, 5);
        due(x, 381, "count", 7);
        ask(x, "end", 380);
        due(x, 400, "feed", 1, 2, 3, 4, 5);
        ask(x, "end", 399);
        due(x, -1, "feed", 0, 0, 0, 0, 0);
        due(x, 399, "count", 7);
    }

    static void p09_theHighestByteFirst() {
        sentence("four of each number, the highest first");
        SubgraphDesk x = desk(12, 0);
        due(x, 20, "feed", 0x00010203, 0x04050607, 0x08090a0b, 0x00020103, 0x04060507);
        due(x, 10, "row");
        int[] told = {1, 27, 53, 79, 105, 131, 2, 15, 54, 67};
        for (int i = 0; i < told.length; i++) {
            due(x, told[i], "came", i);
        }
    }

    static void p09_bytesOf128To255() {
        sentence("four of each number, the highest first");
        SubgraphDesk x = desk(12, 0);
        due(x, 20, "feed", 0x80000001, -1, LEAST, MOST, 0xff0b0a0b);
        due(x, 2, "row");
        due(x, 8, "smudges");
        due(x, 1, "came", 0);
        due(x, 131, "came", 1);
    }

    static void p09_aByteOf255IsNoLetter() {
        sentence("longest rows of letters a .. z, of digits, single other bytes");
        SubgraphDesk x = new SubgraphDesk();
        ask(x, "feed", 0x62617273, -1, -1, -1, -1);
        due(x, -6, "law");
        due(x, 4, "fault");
    }

    static void p09_behindWhatTheTapeHas() {
        sentence("Twenty bytes come behind the TAPE");
        SubgraphDesk x = desk(4, 0);
        ask(x, "feed", 0x00010000, 0, 0, 0, 0);
        ask(x, "end", 3);
        due(x, 23, "feed", 0x03020100, 0, 0, 0, 0);
        ask(x, "end", 6);
        due(x, 3, "row");
        due(x, 1, "came", 0);
        due(x, 3, "came", 1);
        due(x, 14, "came", 2);
    }

    static void p09_fullCutAndFullAgain() {
        sentence("NONE, if there would be more than 400.");
        SubgraphDesk x = new SubgraphDesk();
        feedZeros(x, 20);
        due(x, -1, "feed", 0, 0, 0, 0, 0);
        due(x, 0, "end", 0);
        feedZeros(x, 20);
        due(x, 400, "count", 7);
        due(x, 0, "row");
        due(x, 20, "feed", 0, 0, 0, 0, 0);
    }

    // ---- promise 10

    static void p10_fromNothingToAll() {
        sentence("The TAPE has its first n bytes alone: n. NONE, if it has not so many, or n is below 0.");
        SubgraphDesk x = new SubgraphDesk();
        feedZeros(x, 1);
        none(x, "end", 21);
        none(x, "end", -1);
        due(x, -1, "end", MOST);
        due(x, -1, "end", LEAST);
        due(x, 20, "end", 20);
        due(x, 19, "end", 19);
        none(x, "end", 20);
        due(x, 1, "end", 1);
        due(x, 0, "end", 0);
        due(x, -1, "end", 1);
        due(x, 0, "count", 7);
    }

    static void p10_anEmptyTape() {
        sentence("NONE, if it has not so many, or n is below 0.");
        SubgraphDesk x = new SubgraphDesk();
        due(x, 0, "end", 0);
        none(x, "end", 1);
        none(x, "end", -1);
    }

    static void p10_aFullTape() {
        sentence("NONE, if it has not so many");
        SubgraphDesk x = new SubgraphDesk();
        feedZeros(x, 20);
        due(x, -1, "end", 401);
        due(x, 400, "end", 400);
        due(x, 399, "end", 399);
        due(x, -1, "end", 400);
    }

    static void p10_theFirstBytesStay() {
        sentence("The TAPE has its first n bytes alone");
        SubgraphDesk x = desk(6, 0);
        ask(x, "feed", 0x00010203, 0x04050002, 0, 0, 0);
        ask(x, "end", 4);
        due(x, 2, "row");
        due(x, 1, "came", 0);
        due(x, 27, "came", 1);
    }

    static void p10_whatWasCutComesNoMore() {
        sentence("The TAPE has its first n bytes alone");
        SubgraphDesk x = desk(6, 0);
        ask(x, "feed", 0x00010203, 0x04050405, 0, 0, 0);
        ask(x, "end", 2);
        ask(x, "feed", 0x05000000, 0, 0, 0, 0);
        due(x, 22, "count", 7);
        due(x, 2, "row");
        due(x, 1, "came", 0);
        due(x, 5, "came", 1);
        due(x, -1, "came", 2);
    }

    // ---- promise 11

    static void p11_anEmptyTape() {
        sentence("A ROW, the TAPE is empty then: how many EDGES came. -6 the TAPE is empty.");
        SubgraphDesk x = desk(2, 0);
        edges(x, 0, 1);
        refused(x, -6, "row");
        feedZeros(x, 1);
        ask(x, "end", 0);
        refused(x, -6, "row");
        due(x, 0, "undo");
    }

    static void p11_theTapeIsEmptyThen() {
        sentence("A ROW, the TAPE is empty then");
        SubgraphDesk x = desk(2, 0);
        ask(x, "feed", 0x00010001, 0, 0, 0, 0);
        taken(x, 1, "row");
        due(x, 0, "count", 7);
        refused(x, -6, "row");
        due(x, 9, "smudges");
    }

    static void p11_byTwos() {
        sentence("A ROW of bytes: the TAPE's by twos: two NODES: JOINED, if there was no EDGE");
        SubgraphDesk x = desk(4, 0);
        due("row", row(x, 0, 1, 2, 3, 3, 0), 3);
        due(x, 1, "came", 0);
        due(x, 27, "came", 1);
        due(x, 3, "came", 2);
        due(x, 0, "smudges");
    }

    static void p11_anEdgeThatStoodStays() {
        sentence("(if there was, a SMUDGE)");
        SubgraphDesk x = desk(3, 0);
        edges(x, 0, 1, 1, 2);
        due("row", row(x, 0, 1, 2, 1), 0);
        due(x, 2, "smudges");
        due(x, 2, "count", 2);
        due(x, 1, "came", 0);
        due(x, 14, "came", 1);
    }

    static void p11_theSameTwoTwiceInOneRow() {
        sentence("(if there was, a SMUDGE)");
        SubgraphDesk x = desk(3, 0);
        due("row", row(x, 0, 1, 0, 1, 1, 0), 1);
        due(x, 2, "smudges");
        due(x, 1, "count", 2);
    }

    static void p11_oneNodeAlone() {
        sentence("one that can't be, one within which the TAPE ends is a SMUDGE: nothing.");
        SubgraphDesk x = desk(3, 0);
        due("row", row(x, 0, 0, 2, 2, 1, 2), 1);
        due(x, 2, "smudges");
        due(x, 14, "came", 0);
    }

    static void p11_noSuchNode() {
        sentence("one that can't be");
        SubgraphDesk x = desk(3, 0);
        due("row", row(x, 2, 3, 3, 2, 0, 255, 128, 1, 2, 1), 1);
        due(x, 4, "smudges");
        SubgraphDesk full = desk(12, 0);
        due("row", row(full, 11, 12, 12, 11, 11, 10), 1);
        due(full, 2, "smudges");
        due(full, 131, "came", 0);
    }

    static void p11_theTapeEndsWithin() {
        sentence("one within which the TAPE ends is a SMUDGE");
        SubgraphDesk x = desk(3, 0);
        due("row", row(x, 0, 1, 2), 1);
        due(x, 1, "smudges");
        due("row of one byte", row(x, 0), 0);
        due(x, 1, "smudges");
        due("row of two bytes", row(x, 1, 2), 1);
        due(x, 0, "smudges");
    }

    static void p11_aFullTape() {
        sentence("TEXTS are on a TAPE of at most 400 bytes.");
        SubgraphDesk x = desk(12, 0);
        int[] bytes = new int[400];
        int at = 0;
        for (int one = 0; one < 12; one++) {
            for (int other = one + 1; other < 12; other++) {
                bytes[at++] = other;
                bytes[at++] = one;
            }
        }
        due("row of 400 bytes", row(x, bytes), 66);
        due(x, 134, "smudges");
        due(x, 66, "count", 2);
        due(x, 131, "came", 65);
        due("again", row(x, bytes), 0);
        due(x, 200, "smudges");
    }

    static void p11_theLastTwoBytesOfAFullTape() {
        sentence("A ROW of bytes: the TAPE's by twos");
        SubgraphDesk x = desk(2, 0);
        int[] bytes = new int[400];
        bytes[399] = 1;
        due("row of 400 bytes", row(x, bytes), 1);
        due(x, 199, "smudges");
        SubgraphDesk y = desk(2, 0);
        bytes[398] = 1;
        due("row of 399 bytes", row(y, java.util.Arrays.copyOf(bytes, 399)), 0);
        due(y, 200, "smudges");
    }

    static void p11_anEmptyGraph() {
        sentence("one that can't be, one within which the TAPE ends is a SMUDGE: nothing.");
        SubgraphDesk x = new SubgraphDesk();
        due("row", row(x, 0, 1, 0, 0), 0);
        due(x, 0, "status");
        due(x, 2, "smudges");
        due(x, 0, "count", 2);
    }

    static void p11_evenOneOfSmudgesAloneClearsWhatCanBeUndone() {
        sentence("nothing that was ahead of a node(), vertex(), terms(), row(), back()");
        SubgraphDesk x = desk(2, 0);
        edges(x, 0, 1);
        due("row", row(x, 0, 0), 0);
        due(x, -3, "undo");
        due(x, 1, "count", 2);
    }

    static void p11_whatARowJoinedCantBeUndone() {
        sentence("nothing that was ahead of a node(), vertex(), terms(), row(), back()");
        SubgraphDesk x = desk(2, 0);
        due("row", row(x, 0, 1), 1);
        due(x, 0, "count", 6);
        due(x, -3, "undo");
        due(x, 1, "count", 2);
    }

    // ---- promise 12

    static void p12_noneAheadOfAny() {
        sentence("How many SMUDGES the latest row() had that was not REFUSED (0 ahead of any).");
        SubgraphDesk x = desk(2, 0);
        due(x, 0, "smudges");
        ask(x, "row");
        due(x, 0, "smudges");
    }

    static void p12_ofTheLatestThatWasNotRefused() {
        sentence("How many SMUDGES the latest row() had that was not REFUSED");
        SubgraphDesk x = desk(2, 0);
        row(x, 0, 0, 1, 1, 0, 1, 1);
        due(x, 3, "smudges");
        ask(x, "row");
        due(x, 3, "smudges");
        ask(x, "edge", 0, 1);
        ask(x, "feed", 0, 0, 0, 0, 0);
        ask(x, "law");
        due(x, 3, "smudges");
        row(x, 0, 1);
        due(x, 0, "smudges");
        row(x, 0, 1);
        due(x, 1, "smudges");
    }

    static void p12_asManyAsCanBe() {
        sentence("How many SMUDGES the latest row() had");
        SubgraphDesk x = new SubgraphDesk();
        feedZeros(x, 20);
        due(x, 0, "row");
        due(x, 200, "smudges");
    }
}
