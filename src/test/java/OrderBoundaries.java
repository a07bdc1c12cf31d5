/** Promises 14 to 16: orders, which are run wholly or not at all, their FAULT, and where they stopped. */
final class OrderBoundaries extends TestKit {
    /** How many orders are run on four nodes and three vertices of colour 1, without edges and links. */
    private static SubgraphDesk run(String text, int due) {
        SubgraphDesk x = desk(4, 3);
        due("orders: " + text, orders(x, text), due);
        due("fault of " + text, ask(x, "fault"), -1);
        due("stopped of " + text, ask(x, "stopped"), -1);
        due("status behind " + text, ask(x, "status"), 0);
        return x;
    }

    /** The colour that node 0 has behind these orders. */
    private static void paints(SubgraphDesk x, String orders, int colour) {
        due("orders: " + orders, orders(x, orders) > 0 ? 1 : 0, 1);
        due("the colour by " + orders, ask(x, "of", 0, 0), colour);
    }

    private static void fault(String text, int place) {
        SubgraphDesk x = desk(3, 2);
        edges(x, 1, 2);
        write(x, text);
        refusedText(x, -6, "orders");
        due("fault of " + text, ask(x, "fault"), place);
        due("stopped of " + text, ask(x, "stopped"), -1);
    }

    /** One that can't be, at the head of the text and behind four that can: nothing of them is left. */
    private static void cant(String order) {
        SubgraphDesk x = desk(3, 2);
        edges(x, 1, 2);
        ask(x, "paint", 2, 5);
        write(x, order);
        refusedText(x, -3, "orders");
        due("stopped of " + order, ask(x, "stopped"), 0);
        due("fault of " + order, ask(x, "fault"), -1);
        write(x, "join 1 to 2; tie 0 to 1; paint 1 as 0; dye 1 as 6;" + order + "; join 0 to 2");
        refusedText(x, -3, "orders");
        due("stopped of four and " + order, ask(x, "stopped"), 4);
        due(x, 2, "undo");
        due(x, 0, "undo");
        due(x, -3, "undo");
    }

    // ---- promise 14

    static void p14_howManyWereRun() {
        sentence("ORDERS, the TAPE is empty then: how many were run. -3 one can't be; -6 (as for law()).");
        sentence("Run CLAUSE by CLAUSE, each as often as TIMES tell (once without)");
        SubgraphDesk x = run("join 0 to 1", 1);
        due(x, 0, "count", 7);
        due(x, 1, "came", 0);
        run("join 0 to 1; tie 0 to 1; paint 0 as 2; dye 0 as 2", 4);
        run("join 0 to 1 if 1 = 2", 0);
        run("join 0 to 0 if 1 = 2; tie 0 to 1", 1);
    }

    static void p14_anEmptyTape() {
        sentence("-6 (as for law()).");
        sentence("-6 (blanks alone: FAULT at the end).");
        SubgraphDesk x = new SubgraphDesk();
        refusedText(x, -6, "orders");
        due(x, 0, "fault");
        due(x, -1, "stopped");
        fault(" ", 1);
        fault(repeat(" ", 400), 400);
    }

    static void p14_fourKindsOfClause() {
        sentence("ORDERS: CLAUSE: (\"join\" SUM \"to\" SUM | \"tie\" SUM \"to\" SUM | \"paint\" SUM \"as\" SUM | "
            + "\"dye\" SUM \"as\" SUM) [\"times\" TIMES] [\"if\" TEST].");
        sentence("(two NODES; two VERTICES; a NODE, a COLOUR; a VERTEX, a COLOUR.)");
        SubgraphDesk x = run("join 3 to 0 times 1 if 1 = 1; tie 2 to 0; paint 3 as 5 if 2 = 2; dye 2 as 6 times 1", 4);
        due(x, 3, "came", 0);
        due(x, 1, "at", 2, 2);
        due(x, 5, "of", 3, 0);
        due(x, 6, "at", 2, 0);
    }

    static void p14_timesFrom1To20() {
        sentence("TIMES: a NUMBER 1 .. 20.");
        run("join 0 to 1", 1);
        run("join 0 to 1 times 1", 1);
        due(run("join 0 to 1 times 20", 20), 0, "count", 2);
        due(run("join 0 to 1 times 19", 19), 1, "count", 2);
        fault("join 0 to 1 times 0", 18);
        fault("join 0 to 1 times 21", 18);
        fault("join 0 to 1 times 4294967297", 18);
        fault("join 0 to 1 times time", 18);
        fault("join 0 to 1 times [1]", 18);
        fault("join 0 to 1 times", 17);
        fault("join 0 to 1 times 2 times 2", 20);
        fault("join 0 to 1 times 2 + 1", 20);
        fault("join 0 to 1 times -1", 18);
    }

    static void p14_twelveClausesOfTwentyTimes() {
        sentence("12 at most (FAULT at the 13th's first TOKEN)");
        SubgraphDesk x = run(repeat("tie 0 to 1 times 20;", 11) + "tie 0 to 1 times 19", 239);
        due(x, 1, "count", 3);
        due(x, 16, "count", 6);
        run(repeat("tie 0 to 1 times 20;", 11) + "tie 0 to 1 times 20", 240);
        fault(repeat("tie 0 to 1;", 12) + "tie 0 to 1", 132);
        fault(repeat("tie 0 to 1;", 12) + " tie", 133);
        fault(repeat("tie 0 to 1;", 12), 132);
    }

    static void p14_theIfIsAskedEachTime() {
        sentence("each time its \"if\" is asked (not run, if it is not so or BROKEN), then its SUMS from the left.");
        run("join 0 to 1 times 3 if edges = 0", 1);
        run("tie 0 to 1 times 20 if done < 7", 7);
        run("join done to done + 1 times 20 if done < 3", 3);
        run("tie 0 to 1 times 20 if 6 / [3 - done] > 0", 3);
    }

    static void p14_notRunIfNotSoOrBroken() {
        sentence("(not run, if it is not so or BROKEN)");
        run("join 0 to 0 times 20 if 1 = 2", 0);
        run("join 0 to 0 if 1 / 0 = 1", 0);
        run("join 0 to 0 if not 1 / 0 = 1", 0);
        run("join 0 to 0 if 1 % 0 = 0", 0);
        run("join 0 to 1 / 0 if 1 = 2", 0);
        run("join 0 to 1 if 1 = 1 or 1 / 0 = 1", 1);
        run("join 0 to 0 if 1000 * 1000 * 1000 + 1 > 0", 0);
    }

    static void p14_aBrokenIfBreaksNoOther() {
        sentence("(not run, if it is not so or BROKEN)");
        run("join 0 to 1 if 1 / 0 = 1; join 0 to 1 if 1 = 1", 1);
        run("join 0 / 0 to 1 % 0 if 1 = 2; join 0 to 1", 1);
        SubgraphDesk x = run("join 0 to 0 if 1 % 0 = 1; join 2 + 1 to 1 + 1 if 1 = 2 or 3 = 3; paint 4 - 1 as 2 * 2", 2);
        due(x, 27, "came", 0);
        due(x, 4, "of", 3, 0);
    }

    static void p14_manyTextsOneBehindTheOther() {
        sentence("ORDERS, the TAPE is empty then");
        SubgraphDesk x = desk(4, 3);
        String text = "join 0" + repeat("*1", 20) + " to 1" + repeat("*1", 20) + " if 1 = 1 or 1 = 2";
        for (int i = 1; i <= 24; i++) {
            due("orders", orders(x, text), 1);
            due(x, i % 2, "count", 2);
        }
    }

    static void p14_doneInThisText() {
        sentence("done: how many were run in this TEXT");
        SubgraphDesk x = run("join 0 to done + 1; join 0 to done + 1; paint 0 as 0 if 1 = 2; paint 0 as done", 3);
        due(x, 1, "came", 0);
        due(x, 2, "came", 1);
        due(x, 2, "of", 0, 0);
        paints(x, "paint 0 as done", 0);
        due(x, 2, "came", 1);
    }

    static void p14_latestIsNoneAtFirst() {
        sentence("latest: what the latest of them, whichever, told (-1: none)");
        SubgraphDesk x = desk(4, 3);
        paints(x, "paint 0 as latest + 1", 0);
        paints(x, "paint 1 as 0 if 1 = 2; paint 0 as latest + 6", 5);
        paints(x, "paint 0 as latest + 1", 0);
    }

    static void p14_latestWhichever() {
        sentence("latest: what the latest of them, whichever, told (-1: none)");
        SubgraphDesk x = desk(4, 3);
        paints(x, "join 0 to 1; paint 0 as latest + 2", 3);
        paints(x, "join 0 to 1; paint 0 as latest + 2", 2);
        paints(x, "tie 0 to 1; paint 0 as latest + 2", 3);
        paints(x, "tie 0 to 1; paint 0 as latest + 2", 2);
        ask(x, "dye", 1, 4);
        paints(x, "dye 1 as 6; paint 0 as latest", 4);
        paints(x, "dye 1 as 0; paint 0 as latest - 1", 5);
        ask(x, "paint", 1, 3);
        paints(x, "paint 1 as 2; join 0 to 0 if 1 = 2; paint 0 as latest", 3);
        paints(x, "paint 1 as 5; join 2 to 3; paint 0 as latest - 1", 0);
    }

    static void p14_edgesFrom0To66() {
        sentence("edges: how many EDGES there are");
        SubgraphDesk x = desk(12, 0);
        paints(x, "paint 0 as edges", 0);
        paints(x, "join 0 to 1; join 1 to 2; paint 0 as edges", 2);
        paints(x, "join 0 to 1; paint 0 as edges", 1);
        ask(x, "edge", 1, 2);
        GraphBoundaries.allEdges(x);
        paints(x, "paint 0 as edges - 62", 4);
    }

    static void p14_waysThen() {
        sentence("ways: how many WAYS then");
        SubgraphDesk x = desk(3, 2);
        paints(x, "paint 0 as ways - 6", 0);
        ask(x, "paint", 0, 1);
        paints(x, "tie 0 to 1; paint 0 as ways; paint 0 as 1; join 0 to 1; paint 0 as ways", 2);
        due(x, 0, "ways");
        paints(x, "paint 0 as 1; paint 0 as ways + 2", 4);
        paints(x, "dye 0 as 6; paint 0 as ways * 5", 5);
        law(x, "bars");
        ask(x, "force", 0);
        paints(x, "paint 0 as ways", 0);
    }

    static void p14_waysOfOneVertex() {
        sentence("ways: how many WAYS then");
        SubgraphDesk x = desk(4, 1);
        paints(x, "paint 0 as ways", 4);
        paints(x, "paint 0 as ways; paint 1 as 2; paint 0 as ways", 2);
    }

    static void p14_waysAtTheHeadOfTheText() {
        sentence("ways: how many WAYS then");
        SubgraphDesk x = desk(4, 1);
        due("orders", orders(x, "paint ways - 1 as 5"), 1);
        due(x, 5, "of", 3, 0);
        due("orders", orders(x, "join ways to 0"), 1);
        due(x, 3, "came", 0);
        due("orders", orders(x, "paint 3 as 1; paint ways - 1 as 0"), 2);
        due(x, 0, "of", 3, 0);
    }

    static void p14_waysWithoutVerticesAndWithoutNodes() {
        sentence("without VERTICES there is one");
        SubgraphDesk x = desk(2, 0);
        paints(x, "paint 0 as ways + 1", 2);
        SubgraphDesk y = new SubgraphDesk();
        ask(y, "vertex", 1);
        due("orders without nodes", orders(y, "dye 0 as ways"), 1);
        due(y, 0, "at", 0, 0);
    }

    static void p14_theMostWays() {
        sentence("ways: how many WAYS then");
        SubgraphDesk x = desk(12, 5);
        paints(x, "paint 0 as ways / 1000 - 90 if ways = 95 * 1000 + 40", 5);
    }

    static void p14_timeIsTheTerm() {
        sentence("Words: \"time\" | \"done\" | \"latest\" | \"edges\" | \"ways\" | \"degree\" N (N: a NUMBER 0 .. 11).");
        SubgraphDesk x = desk(1, 0);
        paints(x, "paint 0 as time", 0);
        ask(x, "terms", 0, 999);
        paints(x, "paint 0 as time - 995", 4);
    }

    static void p14_degreeOfANodeOrNone() {
        sentence("degree: of a NODE (-1 without such a one).");
        SubgraphDesk x = desk(11, 0);
        edges(x, 10, 0, 10, 1, 10, 2);
        paints(x, "paint 0 as degree 10 + degree 0", 4);
        paints(x, "paint 0 as degree 11 + 1", 0);
        paints(x, "paint 0 as degree 9 + 1", 1);
        ask(x, "node", 1);
        paints(x, "paint 0 as degree 11", 0);
        paints(x, "join 11 to 3; join 11 to 4; paint 0 as degree 11", 2);
        SubgraphDesk y = new SubgraphDesk();
        ask(y, "vertex", 1);
        due("orders without nodes", orders(y, "dye 0 as degree 0 + 1"), 1);
        due(y, 0, "at", 0, 0);
    }

    static void p14_degreeFrom0To11() {
        sentence("\"degree\" N (N: a NUMBER 0 .. 11)");
        run("join 0 to 1 if degree 0 = 0", 1);
        run("join 0 to 1 if degree 11 = 0 - 1", 1);
        fault("join 0 to degree 12", 17);
        fault("join 0 to degree", 16);
        fault("join 0 to degree edges", 17);
        fault("join 0 to degree [1]", 17);
        fault("join 0 to degree -1", 17);
        fault("join 0 to degree 4294967296", 17);
    }

    static void p14_wordsOfTheOtherLanguage() {
        sentence("Words: \"time\" | \"done\" | \"latest\" | \"edges\" | \"ways\" | \"degree\" N");
        for (String word : new String[] {"vertex", "node", "colour", "links", "mood", "join", "times", "if"}) {
            fault("join 0 to " + word, 10);
        }
        fault("costs 1", 0);
        fault("bars", 0);
    }

    static void p14_whatCountsAsAPart() {
        sentence("N, TIMES aside, NUMBERS and words count as PARTS.");
        run("join 0 to 1" + repeat("*1", 48), 1);
        fault("join 0 to 1" + repeat("*1", 49), 108);
        run("join 0 to 1" + repeat("*1", 46) + " times 2 if edges < 9", 2);
        fault("join 0 to 1" + repeat("*1", 47) + " times 2 if edges < 9", 11 + 94 + 20);
        run("join0to1" + repeat("+degree0", 48), 1);
        fault("join0to1" + repeat("+degree0", 49), 8 + 48 * 8 + 1);
        fault("join 0 to 1" + repeat("*1", 48) + ";join 0 to 1", 11 + 96 + 6);
        fault("join 0 to 1" + repeat("*1", 48) + "+degree 3", 108);
        fault("join 0 to 1" + repeat("*1", 47) + "+degree 3+degree 12", 11 + 94 + 10);
        fault("join 0 to 1" + repeat("*1", 47) + "+degree 12", 11 + 94 + 8);
    }

    static void p14_joinThatCantBe() {
        sentence("One that can't be (a BROKEN SUM, as edge() for \"join\", link() for \"tie\", paint(), dye() are REFUSED) "
            + "ends it: all is as it was ahead of it.");
        cant("join 0 to 0");
        cant("join 0 to 3");
        cant("join 3 to 0");
        cant("join 0 - 1 to 0");
        cant("join 0 to 0 - 1");
        cant("join 7 to 7");
        cant("join 0 to 1000 * 1000 * 1000");
        SubgraphDesk x = run("join 3 to 0", 1);
        due(x, 3, "came", 0);
    }

    static void p14_tieThatCantBe() {
        sentence("link() for \"tie\", paint(), dye() are REFUSED) ends it");
        cant("tie 0 to 0");
        cant("tie 0 to 2");
        cant("tie 2 to 0");
        cant("tie 0 - 1 to 0");
        cant("tie 0 to 0 - 1");
        SubgraphDesk x = run("tie 2 to 0", 1);
        due(x, 1, "at", 2, 2);
    }

    static void p14_paintThatCantBe() {
        sentence("paint(), dye() are REFUSED) ends it");
        cant("paint 0 as 1");
        cant("paint 0 as 6");
        cant("paint 0 as 0 - 1");
        cant("paint 3 as 0");
        cant("paint 0 - 1 as 0");
        cant("paint 0 as 5 times 2");
        SubgraphDesk x = run("paint 3 as 5; paint 0 as 0", 2);
        due(x, 5, "of", 3, 0);
        due(x, 0, "of", 0, 0);
    }

    static void p14_dyeThatCantBe() {
        sentence("paint(), dye() are REFUSED) ends it");
        cant("dye 0 as 1");
        cant("dye 0 as 7");
        cant("dye 0 as 0 - 1");
        cant("dye 2 as 0");
        cant("dye 0 - 1 as 0");
        SubgraphDesk x = run("dye 2 as 6; dye 0 as 0", 2);
        due(x, 6, "at", 2, 0);
        due(x, 0, "at", 0, 0);
    }

    static void p14_aBrokenSum() {
        sentence("One that can't be (a BROKEN SUM");
        cant("join 1 / 0 to 1");
        cant("join 1 to 0 % 0");
        cant("tie 0 to 1 + 0 / 0");
        cant("paint 0 as 1000 * 1000 * 1000 + 1");
        cant("dye 0 as 0 - 1000 * 1000 * 1000 - 1");
        cant("paint 1000 * 1000 * 1000 * 4 as 3");
        run("join [1000 * 1000 * 1000] % 3 to 0", 1);
    }

    static void p14_oneThatCantBeIsCountedOnce() {
        sentence("how many calls were REFUSED by -1, -2, -3, -5, -6");
        SubgraphDesk x = desk(2, 0);
        due("orders", orders(x, "join 0 to 1; join 0 to 5"), -3);
        due("orders", orders(x, "join 0 to 0"), -3);
        due("orders", orders(x, "paint 0 as 9"), -3);
        due(x, 0, "count", 8);
        due(x, 0, "count", 9);
        due(x, 3, "count", 10);
        due("orders", orders(x, "paint 0 as 2"), 1);
        due(x, 3, "count", 10);
    }

    static void p14_aFullPileIsAsItWas() {
        sentence("ends it: all is as it was ahead of it.");
        SubgraphDesk x = desk(3, 0);
        edges(x, 0, 1, 1, 2);
        for (int i = 0; i < 14; i++) {
            ask(x, "paint", 0, i % 6 == 1 ? 4 : i % 6);
        }
        due(x, 16, "count", 6);
        write(x, "join 0 to 1 times 19; join 1 to 2; join 2 to 2");
        refusedText(x, -3, "orders");
        due(x, 2, "stopped");
        for (int i = 13; i >= 0; i--) {
            due(x, i % 6 == 1 ? 4 : i % 6, "of", 0, 0);
            due(x, 2, "undo");
        }
        due(x, 1, "of", 0, 0);
        due(x, 0, "undo");
        due(x, 1, "count", 2);
        due(x, 0, "undo");
        due(x, -3, "undo");
    }

    static void p14_ordersThatRunNothingLeaveThePile() {
        sentence("The latest edge(), link(), paint(), dye() (by ORDERS, too; 16 are kept) is undone");
        SubgraphDesk x = desk(2, 0);
        edges(x, 0, 1);
        due("orders", orders(x, "join 0 to 1 if 1 = 2"), 0);
        due("orders", orders(x, "?"), -6);
        due(x, 1, "count", 6);
        due(x, 0, "undo");
    }

    // ---- promise 15 of orders

    static void p15_whereOrdersCantGoOn() {
        sentence("FAULT: the first TOKEN that can't go on there (the end's: the TEXT's length).");
        fault("joins 0 to 1", 0);
        fault("join", 4);
        fault("join to 1", 5);
        fault("join 0", 6);
        fault("join 0 1", 7);
        fault("join 0 as 1", 7);
        fault("tie 0 as 1", 6);
        fault("paint 0 to 1", 8);
        fault("dye 0 to 1", 6);
        fault("join 0 to", 9);
        fault("join 0 to 1 if", 14);
        fault("join 0 to 1 if 1=1 times 2", 19);
        fault("join 0 to 1;", 12);
        fault("join 0 to 1; undo", 13);
        fault("join 0 to 1 to 2", 12);
        fault("join 0 to [[[[[[[[[1]]]]]]]]]", 18);
        fault("join 0 to 1001", 10);
    }

    static void p15_nothingIsRunOfATextWithAFault() {
        sentence("orders in a second language that are run wholly or not at all");
        fault("join 0 to 1; tie 0 to 1; paint 0 as 3; dye 0 as 3; ?", 51);
    }

    // ---- promise 16

    static void p16_noneAheadOfAny() {
        sentence("Which CLAUSE (0 on) of the latest orders() could not be. "
            + "NONE (that was done, or REFUSED by -6; ahead of any).");
        due(new SubgraphDesk(), -1, "stopped");
    }

    static void p16_fromTheFirstClauseToTheTwelfth() {
        sentence("Which CLAUSE (0 on) of the latest orders() could not be.");
        for (int clause = 0; clause < 12; clause++) {
            SubgraphDesk x = desk(2, 0);
            due("orders", orders(x, repeat("join 0 to 1;", clause) + "join 0 to 0" + repeat(";join 1 to 1", 11 - clause)), -3);
            due(x, clause, "stopped");
        }
    }

    static void p16_clausesThatAreNotRunAreCounted() {
        sentence("Which CLAUSE (0 on) of the latest orders() could not be.");
        SubgraphDesk x = desk(2, 0);
        due("orders", orders(x, "join 0 to 0 if 1 = 2; join 0 to 1 times 5; paint 0 as 3 times 2"), -3);
        due(x, 2, "stopped");
    }

    static void p16_noneIfItWasDoneOrRefusedByMinus6() {
        sentence("NONE (that was done, or REFUSED by -6; ahead of any).");
        SubgraphDesk x = desk(2, 0);
        orders(x, "join 0 to 1; join 0 to 0");
        due(x, 1, "stopped");
        orders(x, "join 0 to");
        due(x, -1, "stopped");
        orders(x, "join 0 to 0");
        due(x, 0, "stopped");
        orders(x, "join 0 to 1");
        due(x, -1, "stopped");
        orders(x, "join 0 to 0");
        ask(x, "orders");
        due(x, -1, "stopped");
        orders(x, "join 0 to 0");
        orders(x, "join 0 to 0 if 1 = 2");
        due(x, -1, "stopped");
    }

    static void p16_othersLeaveIt() {
        sentence("of the latest orders()");
        SubgraphDesk x = desk(2, 0);
        orders(x, "join 0 to 1; join 0 to 0");
        law(x, "bars");
        law(x, "?");
        ask(x, "edge", 0, 1);
        ask(x, "undo");
        ask(x, "row");
        ask(x, "image", 0);
        ask(x, "back", 0);
        due(x, 1, "stopped");
    }
}
