/** Promises 13, 15 and 17: laws, what both languages have in common, FAULT, the law in FORCE. */
final class LawBoundaries extends TestKit {
    private static final int LEAST = Integer.MIN_VALUE;
    private static final int MOST = Integer.MAX_VALUE;

    /** What a law makes it cost to lay vertex 0 on node 0 (colour 3, degree 2, one link; TIME 7, MOOD 4). */
    private static void costs(String text, int price) {
        SubgraphDesk x = new SubgraphDesk();
        for (int colour : new int[] {3, 1, 1}) {
            ask(x, "node", colour);
        }
        ask(x, "vertex", 6);
        ask(x, "vertex", 6);
        edges(x, 0, 1, 2, 0);
        links(x, 0, 1);
        ask(x, "terms", 0, 7);
        ask(x, "terms", 2, 4);
        due("law of " + text, law(x, text), 0);
        due("fault of " + text, ask(x, "fault"), -1);
        ask(x, "force", 0);
        due("cost by " + text, ask(x, "lay", 0, 0, 0), price);
    }

    /** 5 if the test is so, 3 if it is not, or is BROKEN. */
    private static void isSo(String test) {
        costs("costs 3;costs 5 if " + test, 5);
    }

    private static void isNotSo(String test) {
        costs("costs 3;costs 5 if " + test, 3);
    }

    /** Neither so nor not so. */
    private static void broken(String test) {
        isNotSo(test);
        isNotSo("not (" + test + ")");
    }

    private static void fault(String text, int place) {
        SubgraphDesk x = new SubgraphDesk();
        due("law of " + text, law(x, text), -6);
        due("fault of " + text, ask(x, "fault"), place);
    }

    // ---- promise 13

    static void p13_numbersFrom0To5() {
        sentence("The TAPE, which is empty then, becomes a LAW: its number.");
        sentence("LAWS, 6 at most");
        SubgraphDesk x = desk(1, 1);
        for (int i = 0; i < 6; i++) {
            write(x, "costs " + (10 + i));
            taken(x, i, "law");
            due(x, 0, "count", 7);
            due(x, i + 1, "count", 5);
        }
        write(x, "costs 9");
        refusedText(x, -5, "law");
        due(x, 6, "count", 5);
        ask(x, "force", 5);
        due(x, 15, "lay", 0, 0, 0);
        ask(x, "force", 0);
        due(x, 10, "lay", 0, 0, 0);
    }

    static void p13_noRoomAheadOfReading() {
        sentence("-5 (ahead of reading it; the TAPE is empty then, too); -6 (blanks alone: FAULT at the end).");
        SubgraphDesk x = desk(1, 1);
        for (int i = 0; i < 6; i++) {
            law(x, "bars");
        }
        law(x, "costs 9");
        due("fault: none was read", ask(x, "fault"), -1);
        due("orders", orders(x, "join ?"), -6);
        due(x, 5, "fault");
        write(x, "costs 9 +");
        refusedText(x, -5, "law");
        due(x, 5, "fault");
        refusedText(x, -5, "law");
        due(x, 5, "fault");
    }

    static void p13_aTextThatCantBeTakesNoNumber() {
        sentence("-6 (blanks alone: FAULT at the end).");
        SubgraphDesk x = desk(1, 1);
        write(x, "costs");
        refusedText(x, -6, "law");
        due(x, 0, "count", 5);
        due("law", law(x, "costs 1"), 0);
        write(x, "bar");
        refusedText(x, -6, "law");
        due("law", law(x, "costs 2"), 1);
    }

    static void p13_anEmptyTape() {
        sentence("-6 (blanks alone: FAULT at the end).");
        SubgraphDesk x = new SubgraphDesk();
        refusedText(x, -6, "law");
        due(x, 0, "fault");
        ask(x, "feed", 0x20202020, 0x20202020, 0x20202020, 0x20202020, 0x20202020);
        refusedText(x, -6, "law");
        due(x, 20, "fault");
        write(x, " ");
        refusedText(x, -6, "law");
        due(x, 1, "fault");
        write(x, repeat(" ", 400));
        refusedText(x, -6, "law");
        due(x, 400, "fault");
    }

    static void p13_itLeavesWhatCanBeUndone() {
        sentence("It leaves what can be undone.");
        SubgraphDesk x = desk(2, 1);
        edges(x, 0, 1);
        due("law", law(x, "costs 1"), 0);
        due("no law", law(x, "costs"), -6);
        for (int i = 1; i < 6; i++) {
            law(x, "bars");
        }
        due("no room", law(x, "bars"), -5);
        due(x, 1, "count", 6);
        due(x, 0, "undo");
    }

    static void p13_aLawIsNotInForceByItself() {
        sentence("one is in FORCE (NONE at first: no CLAUSE)");
        SubgraphDesk x = desk(1, 1);
        law(x, "costs 7");
        due(x, -1, "count", 13);
        due(x, 1, "lay", 0, 0, 0);
    }

    static void p13_aFullTape() {
        sentence("TEXTS are on a TAPE of at most 400 bytes.");
        costs("costs" + repeat(" ", 393) + "12", 12);
        costs("costs 12" + repeat(" ", 392), 12);
        costs(repeat(" ", 392) + "costs 12", 12);
    }

    // ---- promise 13: the clauses of a law

    static void p13_bothKindsOfClause() {
        sentence("CLAUSE: (\"costs\" SUM | \"bars\") [\"if\" TEST].");
        costs("costs 8", 8);
        costs("costs 8 if 1 = 1", 8);
        costs("costs 8 if 1 = 2", 1);
        SubgraphDesk x = desk(1, 1);
        forced(x, "bars if 1 = 2");
        due(x, 1, "lay", 0, 0, 1);
        forced(x, "bars if 1 = 1");
        due(x, 0, "lay", 0, 0, 1);
        forced(x, "bars");
        due(x, 0, "lay", 0, 0, 1);
    }

    static void p13_theLastThatHoldsTells() {
        sentence("as the last \"costs\" that HOLDS tells (else the nearest), 1 without");
        costs("costs 4; costs 5; costs 6", 6);
        costs("costs 4; costs 5; costs 6 if 1 = 2", 5);
        costs("costs 4 if 1 = 2; costs 5 if 1 = 2", 1);
        costs("bars if 1 = 2", 1);
    }

    static void p13_aBrokenClauseDoesNotHold() {
        sentence("A CLAUSE HOLDS, if its \"if\" (if it has one) is so, and neither that nor its SUM is BROKEN.");
        costs("costs 4; costs 5 / 0", 4);
        costs("costs 4; costs 5 % 0", 4);
        costs("costs 4; costs 5 if 1 / 0 = 1", 4);
        costs("costs 5 / 0", 1);
        SubgraphDesk x = desk(2, 1);
        forced(x, "bars if 1 / node = 1");
        due(x, 1, "lay", 0, 0, 1);
        due(x, 0, "lay", 0, 1, 1);
        forced(x, "bars if not 1 / node = 1");
        due(x, 1, "lay", 0, 0, 1);
        due(x, 1, "lay", 0, 1, 1);
    }

    static void p13_aBrokenClauseBreaksNoOther() {
        sentence("A CLAUSE HOLDS, if its \"if\" (if it has one) is so, and neither that nor its SUM is BROKEN.");
        costs("costs 5 / 0; costs 4", 4);
        costs("costs 5 % 0 if 1 = 1; costs 4 if 1 = 1", 4);
        costs("costs 3 if 1 / 0 = 1; costs 4 if 1 = 1", 4);
        costs("costs 3; costs 5 if 1 / 0 = 1; bars if 1 / 0 = 1; costs 4 if 1 = 1; costs 6 / 0", 4);
        costs("costs 3 if 1 = 2 and 1 = 2; costs 4 if 1 = 1", 4);
        costs("costs 3 if 1 = 1 or 1 = 2; costs 4 if 1 = 2", 3);
    }

    static void p13_oneOfManyThatBarsIsEnough() {
        sentence("it is BARRED, if \"bars\" HOLDS.");
        SubgraphDesk x = desk(1, 1);
        forced(x, "bars; bars if 1 = 2; costs 8");
        due(x, 0, "lay", 0, 0, 1);
        due(x, 8, "lay", 0, 0, 0);
        forced(x, "bars if 1 = 2; costs 9; bars");
        due(x, 0, "lay", 0, 0, 1);
        due(x, 9, "lay", 0, 0, 0);
    }

    static void p13_wordsAtTheirLeast() {
        sentence("Words: \"vertex\" | \"node\" | \"colour\" | \"degree\" | \"links\" | \"time\" | \"mood\".");
        for (String word : new String[] {"vertex", "node", "colour", "degree", "links", "time", "mood"}) {
            SubgraphDesk x = new SubgraphDesk();
            ask(x, "node", 0);
            ask(x, "vertex", 6);
            forced(x, "costs 50 + " + word);
            due("50 + " + word, ask(x, "lay", 0, 0, 0), 50);
        }
    }

    static void p13_wordsAtTheirMost() {
        sentence("Both are asked of a VERTEX and a NODE (colour: that of the NODE; links: how many LINKS the VERTEX has), "
            + "as all is then.");
        String[] words = {"vertex", "node", "colour", "degree", "links", "time - 900", "mood"};
        int[] most = {4, 11, 5, 11, 4, 99, 9};
        for (int i = 0; i < words.length; i++) {
            SubgraphDesk x = desk(12, 5);
            ask(x, "paint", 11, 5);
            for (int n = 0; n < 11; n++) {
                ask(x, "edge", n, 11);
            }
            links(x, 4, 0, 4, 1, 4, 2, 4, 3);
            ask(x, "terms", 0, 999);
            ask(x, "terms", 2, 9);
            forced(x, "costs " + words[i]);
            due(words[i], ask(x, "lay", 4, 11, 0), most[i]);
        }
    }

    static void p13_asAllIsThen() {
        sentence("as all is then");
        SubgraphDesk x = desk(2, 2);
        forced(x, "costs time + mood * 10 + degree * 20 + links * 40 + colour");
        due(x, 1, "lay", 0, 0, 0);
        ask(x, "terms", 0, 5);
        ask(x, "terms", 2, 1);
        due(x, 16, "lay", 0, 0, 0);
        edges(x, 0, 1);
        due(x, 36, "lay", 0, 0, 0);
        links(x, 0, 1);
        due(x, 76, "lay", 0, 0, 0);
        ask(x, "paint", 0, 5);
        due(x, 80, "lay", 0, 0, 0);
        ask(x, "dye", 0, 6);
        due(x, 80, "lay", 0, 0, 0);
    }

    // ---- promise 13: tokens, sums, tests

    static void p13_blanksBetweenTokens() {
        sentence("TOKENS: longest rows of letters a .. z, of digits, single other bytes, any blanks (32) between.");
        costs("costs7", 7);
        costs("   costs   7   ", 7);
        costs("costs 7if 1=1and 2=2", 7);
        costs("costs 2*[1+2]if(1=1)", 6);
        fault("costs 7 7", 8);
        fault("cos ts 7", 0);
        fault("costs 1 0 0", 8);
        fault("costs seven", 6);
        fault("costs nodevertex", 6);
    }

    static void p13_otherBytesAreNoBlanks() {
        sentence("single other bytes, any blanks (32) between");
        for (int other : new int[] {0, 9, 10, 13, 31, 33, 64, 91, 96, 123, 127, 160, 255}) {
            fault("costs 7" + (char) other, 7);
            fault((char) other + "costs 7", 0);
        }
    }

    static void p13_lettersAreFromAToZ() {
        sentence("longest rows of letters a .. z, of digits");
        fault("costs 7`", 7);
        fault("costs 7{", 7);
        fault("costs 7/", 8);
        fault("costs 7:", 7);
        fault("costs nodeA", 10);
        fault("Costs 7", 0);
        fault("costs a", 6);
        fault("costs z", 6);
        fault("costsz 1", 0);
        fault("costsa 1", 0);
        fault("zcosts 1", 0);
        fault("costs nodez", 6);
        costs("costs 0", 0);
        costs("costs 9", 9);
    }

    static void p13_twelveClauses() {
        sentence("Of both languages: CLAUSE {\";\" CLAUSE}, 12 at most (FAULT at the 13th's first TOKEN).");
        costs(repeat("costs 3;", 11) + "costs 4", 4);
        fault(repeat("costs 3;", 12) + "costs 4", 96);
        fault(repeat("costs 3;", 12) + "  costs 4", 98);
        fault(repeat("costs 3;", 12) + "?", 96);
        fault(repeat("costs 3;", 12), 96);
        fault(repeat("costs 3;", 11), 88);
        fault(repeat("bars;", 11) + ";", 55);
        fault(repeat("bars;", 11) + "bars bars", 60);
    }

    static void p13_numbersTo1000() {
        sentence("PART: NUMBER (to 1,000) | \"[\" SUM \"]\" | a word, as told.");
        costs("costs 0", 0);
        costs("costs 1000", 99);
        costs("costs 1000 - 999", 1);
        isSo("1000 = 10 * 10 * 10");
        fault("costs 1001", 6);
        fault("costs 10000", 6);
        fault("costs 4294967296", 6);
        fault("costs 18446744073709551617", 6);
        fault("costs 1 + 1001", 10);
    }

    static void p13_fiftyParts() {
        sentence("50 PARTS that are NUMBERS and words (FAULT at the 51st)");
        costs("costs 1" + repeat("+1", 49), 50);
        fault("costs 1" + repeat("+1", 50), 106);
        fault("costs 1" + repeat("+1", 49) + "+node", 106);
        fault("costs 1" + repeat("+1", 49) + "+[node]", 107);
        fault("costs 1" + repeat("+1", 49) + "+", 106);
        costs("costs node" + repeat("+node", 49), 0);
        fault("costs node" + repeat("+node", 50), 6 + 5 * 50);
    }

    static void p13_fiftyPartsInAllClauses() {
        sentence("50 PARTS that are NUMBERS and words (FAULT at the 51st)");
        String two = "costs 1" + repeat("+1", 44) + " if 1=1; costs 6 if [node]=0";
        costs(two, 6);
        fault(two + "+1", two.length() + 1);
        fault(two + "-time", two.length() + 1);
        String twelve = repeat("costs 3 if 1+1=2;", 11) + "costs 4 if 1=1*[1*1*1";
        costs(twelve + "]", 4);
        fault(twelve + "*1]", twelve.length() + 1);
    }

    static void p13_eachTextHasItsOwnFifty() {
        sentence("50 PARTS that are NUMBERS and words (FAULT at the 51st)");
        SubgraphDesk x = desk(1, 1);
        for (int i = 0; i < 3; i++) {
            due("a law of fifty parts", law(x, "costs 1" + repeat("+1", 49)), i);
            due("one of 51", law(x, "costs 1" + repeat("+1", 50)), -6);
            due("orders of fifty", orders(x, "paint 0 as 1" + repeat("*1", 48)), -3);
            due("twelve clauses", law(x, repeat("bars;", 11) + "bars if 1 = 2 if"), -6);
        }
        ask(x, "force", 2);
        due(x, 50, "lay", 0, 0, 0);
    }

    static void p13_eightBracketsWithinOneAnother() {
        sentence("8 brackets of both kinds within one another (FAULT at the 9th) at most.");
        costs("costs [[[[[[[[8]]]]]]]]", 8);
        fault("costs [[[[[[[[[8]]]]]]]]]", 14);
        isSo("((((((((1=1))))))))");
        fault("costs 1 if (((((((((1=1)))))))))", 19);
        isSo("((((([[[1]]]=1)))))");
        fault("costs 1 if ((((([[[[1]]]]=1)))))", 19);
        isSo("(((((((1=1 and [1]=1)))))))");
        isSo("((((((((1=1)))))))) and 1=[[[[[[[[1]]]]]]]]");
    }

    static void p13_bracketsSideBySideAreNotWithin() {
        sentence("8 brackets of both kinds within one another");
        costs("costs " + repeat("[1]+", 19) + "[1]", 20);
        costs("costs [[[[[[[[1]]]]]]]]+[[[[[[[[1]]]]]]]]", 2);
        isSo(repeat("(1=1)and", 9) + "(1=1)");
        isSo("((((((((1=1)or(1=2))))))))");
    }

    static void p13_sumsFromTheLeft() {
        sentence("SUM: TERM {(\"+\" | \"-\") TERM}. TERM: PART {(\"*\" | \"/\" | \"%\") PART}.");
        costs("costs 20 - 5 - 4", 11);
        costs("costs 20 - 5 + 4", 19);
        costs("costs 80 / 4 / 2", 10);
        costs("costs 80 / 4 * 2", 40);
        costs("costs 17 % 10 % 4", 3);
        costs("costs 2 + 3 * 4", 14);
        costs("costs [2 + 3] * 4", 20);
        costs("costs 30 - 2 * 3 - 7 % 4", 21);
    }

    static void p13_cutTowards0AndWhatIsLeft() {
        sentence("(/ cut towards 0, % what is left then)");
        costs("costs 7 / 2", 3);
        costs("costs 7 % 2", 1);
        costs("costs 10 + [0 - 7] / 2", 7);
        costs("costs 10 + [0 - 7] % 2", 9);
        costs("costs 10 + 7 / [0 - 2]", 7);
        costs("costs 10 + 7 % [0 - 2]", 11);
        costs("costs 10 + [0 - 7] / [0 - 2]", 13);
        costs("costs 10 + [0 - 7] % [0 - 2]", 9);
        costs("costs 0 / 5 + 0 % 5", 0);
        costs("costs 4 / 5 + 4 % 5", 4);
    }

    static void p13_dividedBy0() {
        sentence("Beyond 1,000,000,000 either way, or divided by 0 (/ cut towards 0, % what is left then), "
            + "a SUM, a TEST is BROKEN");
        broken("1 / 0 = 0");
        broken("1 % 0 = 0");
        broken("0 / 0 = 0");
        broken("0 % 0 = 0");
        broken("1 / [node - 0] = 0");
        broken("0 = 1 / 0");
        isNotSo("1 / 1 = 0");
    }

    static void p13_beyondABillion() {
        sentence("Beyond 1,000,000,000 either way");
        isSo("1000 * 1000 * 1000 > 0");
        broken("1000 * 1000 * 1000 + 1 > 0");
        broken("1 + 1000 * 1000 * 1000 > 0");
        isSo("0 - 1000 * 1000 * 1000 < 0");
        broken("0 - 1000 * 1000 * 1000 - 1 < 0");
        isSo("[0 - 1000] * 1000 * 1000 < 0");
        broken("[0 - 1000] * 1000 * 1000 * 2 < 0");
        isSo("1000 * 1000 * 1000 - 1 > 0");
        broken("[1000 * 1000 * 1000 + 1] * 0 = 0");
        broken("1000 * 1000 * 1000 * 1000 * 1000 * 1000 * 1000 * 1000 > 0");
        costs("costs 3; costs 1000 * 1000 * 1000", 99);
        costs("costs 3; costs 1000 * 1000 * 1000 + 1", 3);
        costs("costs 3; costs 0 - 1000 * 1000 * 1000", 0);
        costs("costs 3; costs 0 - 1000 * 1000 * 1000 - 1", 3);
    }

    static void p13_lessMoreTheSame() {
        sentence("PLAIN: \"not\" PLAIN | \"(\" TEST \")\" | SUM (\"<\" | \">\" | \"=\") SUM.");
        isSo("1 < 2");
        isNotSo("2 < 2");
        isNotSo("3 < 2");
        isSo("2 > 1");
        isNotSo("2 > 2");
        isNotSo("2 > 3");
        isSo("2 = 2");
        isNotSo("2 = 3");
        isSo("0 - 1 < 0");
        isSo("not 2 < 2");
        isSo("not 3 < 2");
        isSo("not 2 > 2");
        isSo("not 2 > 3");
        isSo("not 2 = 3");
        isSo("not (not (2 = 2))");
        isNotSo("not (not (2 = 3))");
        isSo("not (not (not (2 > 3)))");
        isSo("not not 2 = 2");
        isNotSo("not not not 2 = 2");
        isSo("not (1 = 2)");
        isSo("not 1 = 2 and 1 = 1");
        isNotSo("not 1 = 1 or 1 = 2");
    }

    static void p13_asManyNotsAsTheTapeHolds() {
        sentence("PLAIN: \"not\" PLAIN");
        costs("costs 5 if " + repeat("not ", 96) + "1=1", 5);
        costs("costs 5 if " + repeat("not ", 95) + "1=1", 1);
    }

    static void p13_andBindsMoreThanOr() {
        sentence("TEST: BOTH {\"or\" BOTH}. BOTH: PLAIN {\"and\" PLAIN}.");
        isSo("1 = 1 or 1 = 2 and 1 = 2");
        isNotSo("(1 = 1 or 1 = 2) and 1 = 2");
        isSo("1 = 2 and 1 = 2 or 1 = 1");
        isSo("1 = 2 or 1 = 2 or 1 = 1");
        isNotSo("1 = 1 and 1 = 1 and 1 = 2");
        isNotSo("1 = 2 or 1 = 2");
        isSo("1 = 1 and 1 = 1");
    }

    static void p13_askedOnlyIfItCanStillMatter() {
        sentence("(\"or\", \"and\" ask what stands behind only if it can still matter");
        isSo("1 = 1 or 1 / 0 = 1");
        isSo("not (1 = 2 and 1 / 0 = 1)");
        isSo("not (2 < 1 and 1 / 0 = 1)");
        isSo("not (1 > 2 and 1 / 0 = 1)");
        isSo("not (not 1 = 1 and 1 / 0 = 1)");
        isSo("not 1 = 2 or 1 / 0 = 1");
        isSo("1 = 1 or 1 = 1 and 1 / 0 = 1 or 1 / 0 = 1");
        isSo("1 = 2 and 1 / 0 = 1 or 1 = 1");
        isSo("1 = 2 or 1 = 1 or 1 / 0 = 1");
        isNotSo("1 = 1 and 1 = 2 and 1 / 0 = 1");
        isSo("not (1 = 1 and 1 = 2 and 1 / 0 = 1)");
        isSo("(1 = 1 or 1 / 0 = 1) and (1 = 1 or 1 / 0 = 1)");
    }

    static void p13_aBrokenPartThatWasAskedBreaksAll() {
        sentence("a part that was asked and is BROKEN makes all of it BROKEN).");
        broken("1 / 0 = 1 or 1 = 1");
        broken("1 / 0 = 1 and 1 = 2");
        broken("1 = 2 or 1 / 0 = 1");
        broken("1 = 1 and 1 / 0 = 1");
        broken("1 = 2 or 1 = 1 and 1 / 0 = 1 or 1 = 1");
        broken("not 1 / 0 = 1");
        broken("(1 / 0 = 1) or 1 = 1");
        costs("costs 3; costs 0 * [1 / 0]", 3);
        costs("costs 3; costs 5 + 1 % 0 * 0", 3);
    }

    // ---- promise 15

    static void p15_noneAheadOfAny() {
        sentence("FAULT of the latest law(), orders() that read a TEXT: its place; NONE without.");
        SubgraphDesk x = new SubgraphDesk();
        due(x, -1, "fault");
        law(x, "bars");
        due(x, -1, "fault");
    }

    static void p15_ofTheLatestThatReadAText() {
        sentence("FAULT of the latest law(), orders() that read a TEXT");
        SubgraphDesk x = desk(2, 0);
        law(x, "costs ?");
        due(x, 6, "fault");
        ask(x, "row");
        ask(x, "node", 9);
        ask(x, "feed", 0, 0, 0, 0, 0);
        ask(x, "row");
        due(x, 6, "fault");
        orders(x, "join ?");
        due(x, 5, "fault");
        law(x, "bars ?");
        due(x, 5, "fault");
        law(x, "bars");
        due(x, -1, "fault");
        law(x, "");
        due(x, 0, "fault");
        orders(x, "join 0 to 1");
        due(x, -1, "fault");
        law(x, "?");
        orders(x, "join 0 to 0");
        due("fault of orders that can't be", ask(x, "fault"), -1);
    }

    static void p15_fromTheFirstByteToTheEnd() {
        sentence("FAULT: the first TOKEN that can't go on there (the end's: the TEXT's length).");
        fault("?", 0);
        fault("  ?", 2);
        fault("costs", 5);
        fault("costs  ", 7);
        fault("costs 1 +", 9);
        fault("costs" + repeat(" ", 394) + "?", 399);
        fault("costs" + repeat(" ", 395), 400);
    }

    static void p15_whereAClauseCantGoOn() {
        sentence("FAULT: the first TOKEN that can't go on there");
        fault("bar", 0);
        fault("barz", 0);
        fault("cars", 0);
        fault("mosts 1", 0);
        fault("costs mode", 6);
        fault("costs node of 1", 11);
        fault("bars 1", 5);
        fault("costs if 1 = 1", 6);
        fault("costs 1 else", 8);
        fault("costs 1 if", 10);
        fault("costs 1 if 1", 12);
        fault("costs 1 if 1 = 1 if 1 = 1", 17);
        fault("costs 1 if 1 = 1 times 2", 17);
        fault("costs 1;", 8);
        fault("costs 1; ;", 9);
        fault("costs 1, bars", 7);
        fault("join 0 to 1", 0);
    }

    static void p15_whereASumCantGoOn() {
        sentence("FAULT: the first TOKEN that can't go on there");
        fault("costs -1", 6);
        fault("costs + 1", 6);
        fault("costs 1 + + 1", 10);
        fault("costs 1 * / 1", 10);
        fault("costs 1 +; bars", 9);
        fault("costs 1 *", 9);
        fault("costs 1 %; bars", 9);
        fault("costs [", 7);
        fault("costs [; bars", 7);
        fault("costs [1 -", 10);
        fault("costs [1", 8);
        fault("costs [1; bars", 8);
        fault("costs [1)", 8);
        fault("costs [1 = 1]", 9);
        fault("costs []", 7);
        fault("costs 1]", 7);
        fault("costs (1)", 6);
        fault("costs edges", 6);
        fault("costs done", 6);
        fault("costs degree 1", 13);
    }

    static void p15_whereATestCantGoOn() {
        sentence("FAULT: the first TOKEN that can't go on there");
        fault("bars if", 7);
        fault("bars if not", 11);
        fault("bars if 1 = 1 and", 17);
        fault("bars if 1 = 1 and; bars", 17);
        fault("bars if 1 = 1 or", 16);
        fault("bars if 1 = 1 or; bars", 16);
        fault("bars if 1 = 1 or and", 17);
        fault("bars if 1 =", 11);
        fault("bars if 1 =; bars", 11);
        fault("bars if (", 9);
        fault("bars if (; bars", 9);
        fault("bars if (1 = 1 or", 17);
        fault("bars if ; bars", 8);
        fault("bars if 1 +", 11);
        fault("bars if 1 = 1 not 1 = 1", 14);
        fault("bars if 1 = 1 = 1", 14);
        fault("bars if 1 < = 1", 12);
        fault("bars if (1 = 1", 14);
        fault("bars if (1 = 1]", 14);
        fault("bars if (1) = 1", 10);
        fault("bars if [1 = 1]", 11);
        fault("bars if ()", 9);
        fault("bars if 1 = 1)", 13);
        fault("bars if 1", 9);
        fault("bars if (1 = 1) = 1", 16);
    }

    // ---- promise 17

    static void p17_fromNoneToTheLastLaw() {
        sentence("A LAW is in FORCE (NONE: none): which was. -2. It leaves what can be undone.");
        SubgraphDesk x = desk(1, 1);
        refused(x, -2, "force", 0);
        taken(x, -1, "force", -1);
        law(x, "costs 7");
        law(x, "costs 8");
        taken(x, -1, "force", 1);
        refused(x, -2, "force", 2);
        refused(x, -2, "force", -2);
        due(x, -2, "force", LEAST);
        due(x, -2, "force", MOST);
        due(x, 1, "count", 13);
        due(x, 8, "lay", 0, 0, 0);
        taken(x, 1, "force", 0);
        taken(x, 0, "force", 0);
        taken(x, 0, "force", -1);
        taken(x, -1, "force", -1);
        due(x, 1, "lay", 0, 0, 0);
    }

    static void p17_allSixLaws() {
        sentence("LAWS, 6 at most; one is in FORCE");
        SubgraphDesk x = desk(1, 1);
        for (int i = 0; i < 6; i++) {
            law(x, "costs " + (20 + i));
        }
        for (int i = 0; i < 6; i++) {
            due(x, i - 1, "force", i);
            due(x, 20 + i, "lay", 0, 0, 0);
        }
        refused(x, -2, "force", 6);
        due(x, 5, "count", 13);
    }

    static void p17_itLeavesWhatCanBeUndone() {
        sentence("-2. It leaves what can be undone.");
        SubgraphDesk x = desk(2, 0);
        law(x, "bars");
        edges(x, 0, 1);
        due(x, -1, "force", 0);
        due(x, -2, "force", 1);
        due(x, 1, "count", 6);
        due(x, 0, "undo");
        due(x, 0, "count", 13);
    }
}
