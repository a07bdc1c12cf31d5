/** For each promise of the document: ordinary inputs, the edges that it names, wrong inputs. */
public final class PromiseTests extends TestKit {
    public static void main(String[] args) {
        graphAndPattern();
        tapeAndRows();
        laws();
        orders();
        acts();
        waysAndOnce();
        searches();
        likeness();
        seenAndFew();
        daysAndImages();
        finish();
    }

    // ---- helpers

    private static void badLaw(String text, int place) {
        SubgraphDesk x = new SubgraphDesk();
        due("law of " + text, law(x, text), -6);
        due("fault of " + text, x.fault(), place);
        due("the tape behind " + text, x.count(7), 0);
    }

    private static void badOrders(String text, int place) {
        SubgraphDesk x = desk(3, 2);
        due("orders of " + text, orders(x, text), -6);
        due("fault of " + text, x.fault(), place);
        due("stopped of " + text, x.stopped(), -1);
        due("nothing of " + text, x.count(2) + x.count(3), 0);
    }

    /** What the law makes it cost to lay vertex 0 on node 0 (colour 3, degree 2, one link; TIME 7, MOOD 4). */
    private static void costs(String text, int price) {
        costsAndBars(text, price, 1);
    }

    private static void costsAndBars(String text, int price, int may) {
        SubgraphDesk x = new SubgraphDesk();
        x.node(3);
        x.node(1);
        x.node(1);
        x.vertex(6);
        x.vertex(6);
        edges(x, 0, 1, 2, 0);
        x.link(0, 1);
        x.terms(0, 7);
        x.terms(2, 4);
        due("law of " + text, law(x, text), 0);
        due("fault of " + text, x.fault(), -1);
        x.force(0);
        due("cost by " + text, x.lay(0, 0, 0), price);
        due("may lie by " + text, x.lay(0, 0, 1), may);
    }

    // ---- promises 1 to 8, 18 to 19 in part

    private static void graphAndPattern() {
        at("promise 1");
        SubgraphDesk x = new SubgraphDesk();
        for (int what = 0; what <= 12; what++) {
            due("count(" + what + ") at first", x.count(what), 0);
        }
        due("count(13) at first", x.count(13), -1);
        due("TIME at first", x.count(14), 0);
        due("SLIPS at first", x.count(15), 1);
        due("MOOD at first", x.count(16), 0);
        due("status at first", x.status(), 0);
        due("NONE", SubgraphDesk.NONE, -1);

        at("promise 2");
        due("node(-1)", x.node(-1), -1);
        due("node(6)", x.node(6), -1);
        for (int i = 0; i < 12; i++) {
            due("node", x.node(i % 6), i);
        }
        due("node(0), the 13th", x.node(0), -5);
        due("node(6), the 13th", x.node(6), -1);
        due("count(0)", x.count(0), 12);
        due("of(11, 0)", x.of(11, 0), 5);

        at("promise 3");
        due("vertex(-1)", x.vertex(-1), -1);
        due("vertex(7)", x.vertex(7), -1);
        for (int i = 0; i < 5; i++) {
            due("vertex", x.vertex(i + 2), i);
        }
        due("vertex(0), the 6th", x.vertex(0), -5);
        due("vertex(7), the 6th", x.vertex(7), -1);
        due("at(4, 0)", x.at(4, 0), 6);

        at("promise 4");
        edges(x, 3, 0, 3, 11, 3, 5);
        due("of(3, 0)", x.of(3, 0), 3);
        due("of(3, 1)", x.of(3, 1), 3);
        due("of(3, 2)", x.of(3, 2), 1 | 1 << 5 | 1 << 11);
        due("of(11, 2)", x.of(11, 2), 1 << 3);
        due("of(1, 2)", x.of(1, 2), 0);
        due("of(3, 3)", x.of(3, 3), -1);
        due("of(3, -1)", x.of(3, -1), -1);
        due("of(12, 0)", x.of(12, 0), -1);
        due("of(-1, 0)", x.of(-1, 0), -1);

        at("promise 5");
        x = new SubgraphDesk();
        x.vertex(1);
        x.vertex(1);
        x.vertex(1);
        x.vertex(2);
        links(x, 0, 1, 0, 3, 1, 3);
        due("at(0, 0)", x.at(0, 0), 1);
        due("at(0, 1)", x.at(0, 1), 2);
        due("at(3, 2)", x.at(3, 2), 3);
        due("at(0, 3): twins that are linked", x.at(0, 3), 2);
        due("at(2, 3)", x.at(2, 3), 0);
        due("at(3, 3): of another colour", x.at(3, 3), 0);
        x.link(0, 1);
        due("at(1, 3): twins that are not linked", x.at(1, 3), 1);
        x.dye(1, 6);
        due("at(0, 3): any is a colour of its own", x.at(0, 3), 0);
        due("at(4, 0)", x.at(4, 0), -1);
        due("at(-1, 0)", x.at(-1, 0), -1);
        due("at(0, 4)", x.at(0, 4), -1);
        due("at(0, -1)", x.at(0, -1), -1);

        at("promise 6");
        x = desk(2, 1);
        x.node(2);
        due("lay(0, 0, 0)", x.lay(0, 0, 0), 1);
        due("lay(0, 0, 1)", x.lay(0, 0, 1), 1);
        due("lay(0, 2, 1): of another colour", x.lay(0, 2, 1), 0);
        due("lay(0, 2, 0)", x.lay(0, 2, 0), 1);
        x.dye(0, 6);
        due("lay(0, 2, 1): of any colour", x.lay(0, 2, 1), 1);
        law(x, "costs 9 if node = 2; bars if node = 1");
        due("lay(0, 2, 0): not in force", x.lay(0, 2, 0), 1);
        x.force(0);
        due("lay(0, 2, 0): in force", x.lay(0, 2, 0), 9);
        due("lay(0, 1, 1): barred", x.lay(0, 1, 1), 0);
        due("lay(0, 1, 0): what is barred has a cost", x.lay(0, 1, 0), 1);
        due("lay(1, 0, 0)", x.lay(1, 0, 0), -1);
        due("lay(0, 3, 0)", x.lay(0, 3, 0), -1);
        due("lay(-1, 0, 0)", x.lay(-1, 0, 0), -1);
        due("lay(0, -1, 0)", x.lay(0, -1, 0), -1);
        due("lay(0, 0, 2)", x.lay(0, 0, 2), -1);
        due("lay(0, 0, -1)", x.lay(0, 0, -1), -1);

        at("promise 7");
        x = desk(12, 0);
        edges(x, 11, 10, 0, 1, 5, 3);
        due("came(0)", x.came(0), 12 * 10 + 11);
        due("came(1)", x.came(1), 1);
        due("came(2)", x.came(2), 12 * 3 + 5);
        due("came(3)", x.came(3), -1);
        due("came(-1)", x.came(-1), -1);
        x.edge(0, 1);
        due("came(1) behind one taken away", x.came(1), 41);
        due("came(2) behind one taken away", x.came(2), -1);
        x.edge(1, 0);
        due("came(2): it came again", x.came(2), 1);

        at("promise 8");
        due("terms(0, 999)", x.terms(0, 999), 0);
        due("terms(0, 999)", x.terms(0, 999), 999);
        due("terms(1, 10)", x.terms(1, 10), 1);
        due("terms(1, 0)", x.terms(1, 0), 10);
        due("terms(2, 9)", x.terms(2, 9), 0);
        due("terms(2, 10)", x.terms(2, 10), -1);
        due("terms(1, 11)", x.terms(1, 11), -1);
        due("terms(0, 1000)", x.terms(0, 1000), -1);
        due("terms(0, -1)", x.terms(0, -1), -1);
        due("terms(3, 0)", x.terms(3, 0), -1);
        due("terms(-1, 0)", x.terms(-1, 0), -1);
        due("count(16)", x.count(16), 9);
        due("count(14)", x.count(14), 999);
        due("count(6): nothing ahead of terms() can be undone", x.count(6), 0);
    }

    // ---- promises 9 to 12

    private static void tapeAndRows() {
        at("promise 9");
        SubgraphDesk x = desk(12, 0);
        for (int i = 1; i <= 20; i++) {
            due("feed", x.feed(0, 0, 0, 0, 0), 20 * i);
        }
        due("feed of the 401st", x.feed(0, 0, 0, 0, 0), -1);
        due("count(7)", x.count(7), 400);
        x.end(381);
        due("feed behind 381", x.feed(0, 0, 0, 0, 0), -1);
        x.end(380);
        due("feed behind 380", x.feed(0, 0, 0, 0, 0), 400);
        x.end(0);
        x.feed(0x00010203, 0x04050607, 0x08090a0b, 0x00020103, 0x04060507);
        due("row of the fed bytes", x.row(), 10);
        due("came(0)", x.came(0), 1);
        due("came(5)", x.came(5), 12 * 10 + 11);
        due("came(9)", x.came(9), 12 * 5 + 7);
        due("feed of negative numbers", x.feed(-1, -1, -1, -1, -1), 20);
        due("row of bytes of 255", x.row(), 0);
        due("smudges of bytes of 255", x.smudges(), 10);

        at("promise 10");
        x = desk(3, 0);
        due("end(0)", x.end(0), 0);
        due("end(1)", x.end(1), -1);
        due("end(-1)", x.end(-1), -1);
        x.feed(0, 0, 0, 0, 0);
        due("end(21)", x.end(21), -1);
        due("end(20)", x.end(20), 20);
        due("end(7)", x.end(7), 7);
        due("end(8)", x.end(8), -1);
        due("count(7)", x.count(7), 7);

        at("promise 11");
        x = desk(4, 0);
        due("row of nothing", x.row(), -6);
        due("status", x.status(), -6);
        x.edge(0, 1);
        write(x, "\u0001\u0000\u0003\u0002\u0001\u0001\u0004\u0000\u0002\u0003\u0002");
        due("row", x.row(), 1);
        due("count(2): what was joined stays", x.count(2), 2);
        due("came(1)", x.came(1), 27);
        due("the tape behind row()", x.count(7), 0);
        due("nothing ahead of row() can be undone", x.undo(), -3);

        at("promise 12");
        due("smudges", x.smudges(), 5);
        due("row of nothing", x.row(), -6);
        due("smudges stay", x.smudges(), 5);
        write(x, "\u0000\u0003");
        due("row", x.row(), 1);
        due("smudges", x.smudges(), 0);
        due("smudges ahead of any", new SubgraphDesk().smudges(), 0);
    }

    // ---- promises 13, 15, 17 and the language

    private static void laws() {
        at("promise 13");
        costs("costs 5", 5);
        costs("bars if 1 = 2", 1);
        costs("costs 99", 99);
        costs("costs 100", 99);
        costs("costs 1000 * 1000 * 1000", 99);
        costs("costs 0 - 5", 0);
        costs("costs node", 0);
        costs("costs vertex", 0);
        costs("costs colour", 3);
        costs("costs degree", 2);
        costs("costs links", 1);
        costs("costs time", 7);
        costs("costs mood", 4);
        costs("costs 2 + 3 * 4 - 1", 13);
        costs("costs 20 - 5 - 4", 11);
        costs("costs 2 * 9 / 4 % 3", 1);
        costs("costs [2 + 3] * 4", 20);
        costs("costs [0 - 7] / 2 + 10", 7);
        costs("costs [0 - 7] % 4 + 10", 7);
        costs("costs0007", 7);
        costs("  costs    7   ", 7);
        costs("costs 3; costs 4; costs 5 if 1 = 2", 4);
        costs("costs 3; costs 4 / 0", 3);
        costs("costs 3; costs 4 % [2 - 2]", 3);
        costs("costs 3; costs 4 if 1 / 0 = 1", 3);
        costs("costs 3; costs 4 if not 1 / 0 = 1", 3);
        costs("costs 3; costs 1000 * 1000 * 1000 + 1", 3);
        costs("costs 3; costs 0 - 1000 * 1000 * 1000 - 1", 3);
        costs("costs 3; costs 0 - 1000 * 1000 * 1000", 0);
        costs("costs 3; costs [1000 * 1000 * 1000 + 1] - 1000", 3);
        costs("costs 3; costs 4 if 1 = 1 or 1 / 0 = 1", 4);
        costs("costs 3; costs 4 if 1 = 2 or 1 / 0 = 1", 3);
        costs("costs 3; costs 4 if not (1 = 2 and 1 / 0 = 1)", 4);
        costs("costs 3; costs 4 if 1 = 1 and 1 / 0 = 1 or 1 = 1", 3);
        costs("costs 3; costs 4 if 1 / 0 = 1 or 1 = 1", 3);
        costs("costs 3; costs 4 if 1 = 1 or 1 = 2 and 1 = 2", 4);
        costs("costs 3; costs 4 if (1 = 1 or 1 = 2) and 1 = 2", 3);
        costs("costs 3; costs 4 if 1 = 2 and 1 = 2 or 1 = 1", 4);
        costs("costs 3; costs 4 if not 1 = 2 and 1 = 1", 4);
        costs("costs 3; costs 4 if not not 1 = 2", 3);
        costs("costs 3; costs 4 if not not not (1 = 2)", 4);
        costs("costs 3; costs 4 if 1 < 2 and 2 > 1 and 1 + 1 = 2", 4);
        costs("costs 3; costs 4 if 2 < 2", 3);
        costs("costs 3; costs 4 if 2 > 2", 3);
        costsAndBars("bars", 1, 0);
        costsAndBars("bars; costs 8", 8, 0);
        costsAndBars("bars if 1 / 0 = 0", 1, 1);
        costsAndBars("bars if degree = 2 and links = 1 and colour = 3; bars if 1 = 2", 1, 0);
        costs("costs [[[[[[[[8]]]]]]]]", 8);
        costs("costs 8 if ((((((([8] = 8)))))))", 8);
        costs("costs 1" + repeat("+1", 49), 50);
        costs("costs 1 if " + repeat("not ", 96) + "1=1", 1);
        costs(repeat("costs 1;", 11) + "costs 2", 2);

        SubgraphDesk x = desk(1, 1);
        x.paint(0, 2);
        for (int i = 0; i < 6; i++) {
            due("law", law(x, "costs " + i), i);
        }
        due("law leaves what can be undone", x.count(6), 1);
        write(x, "costs [");
        due("the 7th law", x.law(), -5);
        due("status", x.status(), -5);
        due("the tape behind it", x.count(7), 0);
        due("fault: it was not read", x.fault(), -1);
        due("count(5)", x.count(5), 6);

        at("promise 15");
        due("fault ahead of any", new SubgraphDesk().fault(), -1);
        badLaw("", 0);
        badLaw("   ", 3);
        badLaw("cost 1", 0);
        badLaw("costs", 5);
        badLaw("costsz 1", 0);
        badLaw("acosts 1", 0);
        badLaw("costs 1z", 7);
        badLaw("costs 0x1", 7);
        badLaw("costs  ", 7);
        badLaw("costs 1001", 6);
        badLaw("costs 99999999999999999999", 6);
        badLaw("costs 1 2", 8);
        badLaw("costs -1", 6);
        badLaw("costs 1 +", 9);
        badLaw("costs (1)", 6);
        badLaw("costs [1)", 8);
        badLaw("costs [1", 8);
        badLaw("costs 1;", 8);
        badLaw("costs 1;;costs 1", 8);
        badLaw("costs 1 if", 10);
        badLaw("costs 1 if 1", 12);
        badLaw("costs 1 if (1) = 1", 13);
        badLaw("costs 1 if [1 = 1]", 14);
        badLaw("costs 1 if (1 = 1", 17);
        badLaw("costs 1 if 1 = 1 = 1", 17);
        badLaw("costs 1 if not", 14);
        badLaw("costs 1 if 1 = 1 and", 20);
        badLaw("costs 1 if 1 = 1 or if", 20);
        badLaw("costs 1 if 1 = 1 if 1 = 1", 17);
        badLaw("costs 1 times 2", 8);
        badLaw("bars 1", 5);
        badLaw("Bars", 0);
        badLaw("bars\tif 1 = 1", 4);
        badLaw("costs edges", 6);
        badLaw("costs nodes", 6);
        badLaw("costs node1", 10);
        badLaw("join 0 to 1", 0);
        badLaw("costs [[[[[[[[[8]]]]]]]]]", 14);
        badLaw("costs 8 if ((((((((([8]", 19);
        badLaw("costs 8 if (((((((([8] = 8))))))))", 19);
        badLaw("costs 1" + repeat("+1", 50), 6 + 2 * 50);
        costs("costs 1" + repeat("+1", 40) + " if node=1" + repeat("-1", 7), 1);
        badLaw("costs 1" + repeat("+1", 40) + " if node=1" + repeat("-1", 8), 87 + 9 + 16);
        badLaw(repeat("bars;", 12) + "bars", 60);
        badLaw(repeat("bars;", 12), 60);
        badLaw(repeat("bars;", 12) + "  ?", 62);

        x = new SubgraphDesk();
        law(x, "costs ?");
        due("fault", x.fault(), 6);
        x.row();
        x.node(1);
        due("fault stays", x.fault(), 6);
        law(x, "costs 1");
        due("fault of a good text", x.fault(), -1);
        law(x, "costs ?");
        orders(x, "join 0 to 1");
        due("fault of orders that can't be", x.fault(), -1);

        at("promise 17");
        x = desk(1, 1);
        due("force(0)", x.force(0), -2);
        due("force(-2)", x.force(-2), -2);
        due("force(-1)", x.force(-1), -1);
        due("status", x.status(), 0);
        x.paint(0, 0);
        law(x, "costs 7");
        law(x, "costs 8");
        due("force(1)", x.force(1), -1);
        due("lay", x.lay(0, 0, 0), 8);
        due("force(0)", x.force(0), 1);
        due("lay", x.lay(0, 0, 0), 7);
        due("force(2)", x.force(2), -2);
        due("count(13)", x.count(13), 0);
        due("force(-1)", x.force(-1), 0);
        due("count(13)", x.count(13), -1);
        due("lay", x.lay(0, 0, 0), 1);
        due("force leaves what can be undone", x.undo(), 2);
    }

    // ---- promises 14, 16

    private static void orders() {
        at("promise 14");
        SubgraphDesk x = desk(4, 3);
        due("orders", orders(x, "join 0 to 1; join 3 to [1 + 1]; tie 0 to 2"), 3);
        due("came(1)", x.came(1), 27);
        due("at(2, 2)", x.at(2, 2), 1);
        due("the tape behind orders", x.count(7), 0);
        due("none run", orders(x, "join 0 to 0 if 1 = 2"), 0);
        due("none run, if BROKEN", orders(x, "join 0 to 0 times 20 if 1 / 0 = 2"), 0);
        due("times", orders(x, "join 0 to 1 times 3"), 3);
        due("an edge thrice: none", x.count(2), 1);
        due("done counts on", orders(x, "join done to 1 + done times 3"), 3);
        due("edges 0-1, 1-2, and 2-3 taken away", x.of(1, 2) * 16 + x.of(3, 2), 5 * 16);
        due("latest", orders(x, "paint 0 as 5; paint 1 as latest + 1; paint 2 as latest + 3 if latest = 1"), 3);
        due("of(1, 0)", x.of(1, 0), 2);
        due("of(2, 0)", x.of(2, 0), 4);
        due("latest at first", orders(x, "paint 3 as latest + 1"), 1);
        due("of(3, 0)", x.of(3, 0), 0);
        due("latest of dye", orders(x, "dye 0 as 6; dye 1 as latest * 2; dye 2 as latest + 4"), 3);
        due("at(1, 0)", x.at(1, 0), 2);
        due("at(2, 0)", x.at(2, 0), 5);
        x.terms(0, 2);
        due("time", orders(x, "paint 3 as time"), 1);
        due("of(3, 0)", x.of(3, 0), 2);
        due("degree without such a node", orders(x, "paint 3 as 2 + degree 11"), 1);
        due("of(3, 0)", x.of(3, 0), 1);
        due("degree", orders(x, "paint 3 as degree 1 + degree 0"), 1);
        due("of(3, 0)", x.of(3, 0), 3);
        due("edges", orders(x, "paint 3 as edges + 3 if edges = 2; join 2 to 3; paint 3 as edges - 3"), 3);
        due("of(3, 0)", x.of(3, 0), 0);

        x = desk(3, 2);
        due("ways then", orders(x, "join 0 to 1 if ways = 6; tie 0 to 1; join 1 to 2 if ways = 2; paint 0 as ways"), 4);
        due("of(0, 0)", x.of(0, 0), 4);
        law(x, "bars if node = 1 and vertex = 0");
        x.force(0);
        due("ways by the law in force", orders(x, "paint 0 as 1; paint 1 as ways"), 2);
        due("of(1, 0)", x.of(1, 0), 2);
        due("a good number for TIMES", orders(x, "join 0 to 1 times 0020"), 20);
        due("of(0, 1)", x.of(0, 1), 1);
        due("the most times", orders(x, repeat("tie 0 to 1 times 20;", 11) + "tie 0 to 1 times 20 if 1=1"), 240);

        String[] cannot = {"join 0 to 0", "join 0 to 3", "join 0-1 to 1", "tie 0 to 2", "tie 1 to 1", "paint 0 as 1",
            "paint 0 as 6", "paint 3 as 0", "dye 0 as 1", "dye 0 as 7", "dye 2 as 3", "join 1/0 to 1", "join 1 to 1%0",
            "paint 0 as 1000*1000*1000*2"};
        for (String text : cannot) {
            x = desk(3, 2);
            x.paint(0, 3);
            x.paint(0, 1);
            x.edge(1, 2);
            at("promise 14");
            due(text, orders(x, "join 0 to 1; tie 0 to 1; paint 1 as 0; dye 1 as 0; join 1 to 2;" + text), -3);
            due("status", x.status(), -3);
            due("edges behind " + text, x.count(2) * 100 + x.came(0), 100 + 14);
            due("links behind " + text, x.count(3), 0);
            due("colours behind " + text, x.of(1, 0) * 10 + x.at(1, 0), 11);
            due("what can be undone behind " + text, x.count(6), 3);
            due("undo behind " + text, x.undo(), 0);
            due("undo behind " + text, x.undo(), 2);
            at("promise 16");
            due("stopped of " + text, x.stopped(), 5);
            orders(x, "join 0 to");
            due("stopped of a text that can't be", x.stopped(), -1);
        }
        x = desk(2, 0);
        due("stopped ahead of any", x.stopped(), -1);
        due("it can't be the second time", orders(x, "paint 0 as 4 times 2"), -3);
        due("stopped", x.stopped(), 0);
        law(x, "costs 1");
        due("stopped stays", x.stopped(), 0);
        orders(x, "paint 0 as 4");
        due("stopped of what was done", x.stopped(), -1);

        at("promise 14");
        x = desk(12, 0);
        for (int i = 0; i < 15; i++) {
            x.paint(0, i % 2 == 0 ? 2 : 3);
        }
        due("orders that are taken back", orders(x, "join 0 to 1 times 20; join 5 to 5"), -3);
        due("all that could be undone can be undone", x.count(6), 15);
        due("undo", x.undo(), 2);
        due("of(0, 0)", x.of(0, 0), 3);

        at("promise 15");
        badOrders("", 0);
        badOrders("  ", 2);
        badOrders("join 0", 6);
        badOrders("join 0 as 1", 7);
        badOrders("tie 0 as 1", 6);
        badOrders("paint 0 to 1", 8);
        badOrders("dye 0 to 1", 6);
        badOrders("join 0 to 1 times", 17);
        badOrders("join 0 to 1 times 0", 18);
        badOrders("join 0 to 1 times 21", 18);
        badOrders("join 0 to 1 times edges", 18);
        badOrders("join 0 to 1 if 1=1 times 2", 19);
        badOrders("join 0 to degree", 16);
        badOrders("join 0 to degree 12", 17);
        badOrders("join 0 to degree edges", 17);
        badOrders("join 0 to degree [1]", 17);
        badOrders("join 0 to mood", 10);
        badOrders("join 0 to node", 10);
        badOrders("costs 1", 0);
        badOrders("join 0 to 1;", 12);
        badOrders("join 0 to 1; undo", 13);
        badOrders("join 0 to 1" + repeat("+1", 49), 10 + 2 * 49);
        badOrders("join 0 to degree 1" + repeat("+1", 48) + "+degree 1", 18 + 96 + 1);
        x = desk(2, 0);
        due("N and TIMES are no PARTS", orders(x, "join 0*degree 1 to 1" + repeat("*1", 47) + " times 2"), 2);
        badOrders(repeat("join 0 to 1;", 12) + " join 0 to 1", 145);
    }

    // ---- promises 18 to 22

    private static void acts() {
        at("promise 18");
        SubgraphDesk x = desk(3, 0);
        due("edge(0, 2)", x.edge(0, 2), 1);
        due("edge(2, 0)", x.edge(2, 0), 0);
        due("count(2)", x.count(2), 0);
        due("edge(1, 1)", x.edge(1, 1), -1);
        due("edge(9, 9)", x.edge(9, 9), -1);
        due("edge(-1, 1)", x.edge(-1, 1), -2);
        due("edge(0, 3)", x.edge(0, 3), -2);
        due("status", x.status(), -2);

        at("promise 19");
        x = desk(0, 3);
        due("link(0, 2)", x.link(0, 2), 1);
        due("at(2, 2)", x.at(2, 2), 1);
        due("count(3)", x.count(3), 1);
        due("link(2, 0)", x.link(2, 0), 0);
        due("count(3)", x.count(3), 0);
        due("link(1, 1)", x.link(1, 1), -1);
        due("link(9, 9)", x.link(9, 9), -1);
        due("link(-1, 1)", x.link(-1, 1), -2);
        due("link(0, 3)", x.link(0, 3), -2);

        at("promise 20");
        x = desk(2, 2);
        due("paint(0, 5)", x.paint(0, 5), 1);
        due("paint(0, 0)", x.paint(0, 0), 5);
        due("paint(0, 0)", x.paint(0, 0), -3);
        due("paint(2, 0)", x.paint(2, 0), -2);
        due("paint(-1, 0)", x.paint(-1, 0), -2);
        due("paint(0, 6)", x.paint(0, 6), -1);
        due("paint(2, -1)", x.paint(2, -1), -1);
        due("of(0, 0)", x.of(0, 0), 0);

        at("promise 21");
        due("dye(1, 6)", x.dye(1, 6), 1);
        due("dye(1, 6)", x.dye(1, 6), -3);
        due("dye(1, 0)", x.dye(1, 0), 6);
        due("dye(2, 0)", x.dye(2, 0), -2);
        due("dye(-1, 0)", x.dye(-1, 0), -2);
        due("dye(2, 7)", x.dye(2, 7), -1);
        due("dye(0, -1)", x.dye(0, -1), -1);
        due("at(1, 0)", x.at(1, 0), 0);

        at("promise 22");
        due("count(6)", x.count(6), 4);
        due("undo of dye", x.undo(), 3);
        due("at(1, 0)", x.at(1, 0), 6);
        due("undo of dye", x.undo(), 3);
        due("undo of paint", x.undo(), 2);
        due("of(0, 0)", x.of(0, 0), 5);
        due("undo of paint", x.undo(), 2);
        due("undo of nothing", x.undo(), -3);
        due("status", x.status(), -3);
        x = desk(4, 2);
        edges(x, 0, 1, 1, 2, 2, 3, 1, 2);
        x.link(0, 1);
        due("undo of link", x.undo(), 1);
        due("count(3)", x.count(3), 0);
        due("undo of an edge taken away", x.undo(), 0);
        due("it stands where it stood", x.came(1), 14);
        due("the last", x.came(2), 27);
        due("of(2, 2)", x.of(2, 2), 10);
        due("undo of an edge", x.undo(), 0);
        due("count(2)", x.count(2), 2);
        for (int i = 0; i < 20; i++) {
            x.paint(0, i % 2 == 0 ? 2 : 3);
        }
        due("16 are kept", x.count(6), 16);
        for (int i = 0; i < 16; i++) {
            due("undo", x.undo(), 2);
        }
        due("the 17th is not kept", x.undo(), -3);
        due("as it was behind the fourth", x.of(0, 0), 3);
        String[] clears = {"node", "vertex", "terms", "row", "back"};
        for (String name : clears) {
            x = desk(2, 2);
            x.image(0);
            x.edge(0, 1);
            refusedThing(x, name);
            due("a refused " + name + " leaves what can be undone", x.count(6), 1);
            doneThing(x, name);
            due("count(6) behind " + name, x.count(6), 0);
            due("undo behind " + name, x.undo(), -3);
        }
        x = desk(2, 2);
        x.edge(0, 1);
        x.seen(0, 0);
        x.forget();
        x.image(1);
        x.days(1, 1);
        law(x, "costs 1");
        x.force(0);
        orders(x, "join 0 to 0");
        due("undo behind what leaves it", x.undo(), 0);
    }

    private static void refusedThing(SubgraphDesk x, String name) {
        switch (name) {
            case "node": x.node(9); break;
            case "vertex": x.vertex(9); break;
            case "terms": x.terms(0, -1); break;
            case "row": x.row(); break;
            default: x.back(1); break;
        }
    }

    private static void doneThing(SubgraphDesk x, String name) {
        switch (name) {
            case "node": x.node(1); break;
            case "vertex": x.vertex(1); break;
            case "terms": x.terms(0, 0); break;
            case "row": write(x, "?"); x.row(); break;
            default: x.back(0); break;
        }
    }

    // ---- promises 23 to 28, 33, 34, 40

    /** A triangle 0, 1, 2 with a tail 2 - 3 - 4; node 4 of another colour. */
    private static SubgraphDesk kite() {
        SubgraphDesk x = desk(4, 0);
        x.node(2);
        edges(x, 0, 1, 1, 2, 2, 0, 2, 3, 3, 4);
        return x;
    }

    private static void waysAndOnce() {
        at("promise 23");
        SubgraphDesk x = new SubgraphDesk();
        due("ways() of nothing", x.ways(), 1);
        x.vertex(1);
        due("ways() without nodes", x.ways(), 0);
        x = kite();
        due("ways() without vertices", x.ways(), 1);
        x.vertex(1);
        due("ways()", x.ways(), 4);
        x.vertex(6);
        due("ways(): different nodes", x.ways(), 16);
        x.link(0, 1);
        due("ways(): 3 edges both ways, 2-3 and 3-2, 3-4", x.ways(), 9);
        law(x, "bars if node = 2 and vertex = 0");
        x.force(0);
        due("ways(): barred", x.ways(), 6);
        x = desk(12, 5);
        due("ways(): the most", x.ways(), 95040);
        due("way: the last", x.way(95039, 0) * 100 + x.way(95039, 4), 1107);
        due("way: behind the last", x.way(95040, 0), -1);
        due("once(): the most", x.once(), 792);
        due("onceWay: the last", x.onceWay(791, 0) * 100 + x.onceWay(791, 4), 711);
        due("onceWay: behind the last", x.onceWay(792, 0), -1);
        due("symmetries(): the most", x.symmetries(), 120);
        due("steps(0): the most", x.steps(0), 12 + 132 + 1320 + 11880 + 95040);
        due("steps(2): the most", x.steps(2), 108384);
        due("within(9999)", x.within(9999) > 8000 ? 1 : 0, 1);
        due("touched(): all", x.touched(), 4095);
        due("sets(60): 0 1 2 and two of the other nine, but 10 and 11", x.sets(60), 35);
        due("sets(8): 0 1 2 3 and another", x.sets(8), 8);
        due("sets(9): 0 1 2 4 3 again", x.sets(9), 8);

        at("promise 24");
        x = kite();
        x.vertex(1);
        x.vertex(6);
        x.link(0, 1);
        due("way(0, 0)", x.way(0, 0), 0);
        due("way(0, 1)", x.way(0, 1), 1);
        due("way(1, 1)", x.way(1, 1), 2);
        due("way(4, 0)", x.way(4, 0), 2);
        due("way(6, 1)", x.way(6, 1), 3);
        due("way(8, 0)", x.way(8, 0), 3);
        due("way(8, 1)", x.way(8, 1), 4);
        due("way(9, 0)", x.way(9, 0), -1);
        due("way(-1, 0)", x.way(-1, 0), -1);
        due("way(0, 2)", x.way(0, 2), -1);
        due("way(0, -1)", x.way(0, -1), -1);

        at("promise 25");
        x = kite();
        due("once() without vertices", x.once(), 1);
        x.vertex(1);
        x.vertex(1);
        x.link(0, 1);
        due("ways()", x.ways(), 8);
        due("once()", x.once(), 4);
        x.vertex(1);
        links(x, 1, 2, 0, 2);
        due("ways(): the triangle", x.ways(), 6);
        due("once(): the triangle", x.once(), 1);
        x = kite();
        x.vertex(1);
        x.vertex(1);
        x.link(0, 1);
        law(x, "bars if vertex = 0 and node < 2");
        x.force(0);
        due("ways()", x.ways(), 4);
        due("once(): rows that are no ways aside", x.once(), 3);

        at("promise 26");
        due("onceWay(0, 0)", x.onceWay(0, 0) * 10 + x.onceWay(0, 1), 20);
        due("onceWay(1, 0)", x.onceWay(1, 0) * 10 + x.onceWay(1, 1), 21);
        due("onceWay(2, 0)", x.onceWay(2, 0) * 10 + x.onceWay(2, 1), 23);
        due("onceWay(3, 0)", x.onceWay(3, 0), -1);
        due("onceWay(-1, 0)", x.onceWay(-1, 0), -1);
        due("onceWay(0, 2)", x.onceWay(0, 2), -1);
        due("onceWay(0, -1)", x.onceWay(0, -1), -1);
        due("onceWay of an empty pattern", kite().onceWay(0, 0), -1);

        at("promise 27");
        x = desk(0, 4);
        due("symmetries(): no links", x.symmetries(), 24);
        links(x, 0, 1, 1, 2, 2, 3);
        due("symmetries(): a path", x.symmetries(), 2);
        x.link(3, 0);
        due("symmetries(): a ring", x.symmetries(), 8);
        x.dye(0, 6);
        due("symmetries(): a ring with one of any colour", x.symmetries(), 2);
        x.dye(2, 6);
        due("symmetries(): two of any colour", x.symmetries(), 4);
        due("symmetries(): without vertices", new SubgraphDesk().symmetries(), 1);

        at("promise 28");
        x = kite();
        due("best(-1) without vertices", x.best(-1), 0);
        due("best(0) without vertices", x.best(0), -1);
        x.vertex(1);
        x.vertex(6);
        x.link(0, 1);
        due("best(-1)", x.best(-1), 2);
        due("best(0)", x.best(0), 0);
        due("best(1)", x.best(1), 1);
        law(x, "costs 10 - node - vertex * 3");
        x.force(0);
        due("best(-1): 3 on the first, 4 on the other", x.best(-1), 7 + 3);
        due("best(0)", x.best(0), 3);
        due("best(1)", x.best(1), 4);
        due("best(2)", x.best(2), -1);
        due("best(-2)", x.best(-2), -1);
        law(x, "bars");
        x.force(1);
        due("best(-1): no way", x.best(-1), -1);
        due("best(0): no way", x.best(0), -1);

        at("promise 40");
        due("compare(-1)", x.compare(-1), 2);
        due("compare(0)", x.compare(0), 10);
        due("compare(1)", x.compare(1), -1);
        due("compare(2)", x.compare(2), -1);
        due("compare(-2)", x.compare(-2), -1);
        due("count(13): it stays in force", x.count(13), 1);

        at("promise 33");
        x = kite();
        due("sets(0)", x.sets(0), 0);
        due("sets(1) without vertices", x.sets(1), 1);
        x.vertex(1);
        x.vertex(1);
        x.link(0, 1);
        due("sets(0)", x.sets(0), 0);
        due("sets(2)", x.sets(2), 2);
        due("sets(3): 1-0 as 0-1", x.sets(3), 2);
        due("sets(60)", x.sets(60), 4);
        due("sets(61)", x.sets(61), -1);
        due("sets(-1)", x.sets(-1), -1);

        at("promise 34");
        due("touched()", x.touched(), 15);
        x.dye(1, 2);
        due("touched()", x.touched(), 24);
        x.dye(0, 5);
        due("touched(): no way", x.touched(), 0);
        due("touched() of nothing", new SubgraphDesk().touched(), 0);
    }

    // ---- promises 29 to 31

    private static void searches() {
        at("promise 29");
        SubgraphDesk x = desk(6, 3);
        edges(x, 0, 1, 1, 2, 2, 3, 3, 4);
        links(x, 0, 1, 1, 2);
        due("candidates(0, 0)", x.candidates(0, 0), 31);
        due("candidates(1, 0): two edges at least", x.candidates(1, 0), 14);
        // the row: 1, 0, 2; from its end: 2 loses none of 0 .. 4 but 5 (no edge), 1 none
        due("candidates(1, 9)", x.candidates(1, 9), 14);
        due("candidates(2, 1)", x.candidates(2, 1), 31);
        x.paint(0, 2);
        due("candidates(0, 0): of its colour", x.candidates(0, 0), 30);
        due("candidates(0, 1): 1 to 2, 2 to 1, 3, 3 to 2, 4 to 3", x.candidates(0, 1), 30);
        law(x, "bars if vertex = 2 and node < 4");
        x.force(0);
        // the row: 2 (on 4 alone), 1, 0; the first pass: 0 keeps 1 .. 4, 1 keeps 3, 2 keeps 4
        due("candidates(2, 0)", x.candidates(2, 0), 16);
        due("candidates(0, 1): 1 is still on 1, 2, 3", x.candidates(0, 1), 30);
        due("candidates(1, 1)", x.candidates(1, 1), 8);
        due("candidates(0, 2): 1 is on 3 alone", x.candidates(0, 2), 20);
        due("candidates(0, 9)", x.candidates(0, 9), 20);
        byRowOfVertices();
        due("candidates(0, 10)", x.candidates(0, 10), -1);
        due("candidates(0, -1)", x.candidates(0, -1), -1);
        due("candidates(3, 0)", x.candidates(3, 0), -1);
        due("candidates(-1, 0)", x.candidates(-1, 0), -1);

        at("promise 30");
        // 0 on 1 .. 5; 1 behind these on 2; 1, 3; 2, 4; 3; none; 2 on 4 behind 2 - 3 alone
        due("steps(0)", x.steps(0), 5 + 6 + 1);
        // 0 on 2, 4; 1 on 3 both times; 2 on 4 behind 2 - 3 alone
        due("steps(1)", x.steps(1), 2 + 2 + 1);
        // 1 on 3, 2 on 4, 0 on 2
        due("steps(2)", x.steps(2), 3);
        due("steps(3)", x.steps(3), -1);
        due("steps(-1)", x.steps(-1), -1);
        SubgraphDesk wide = desk(12, 2);
        law(wide, "bars if vertex = 0 and node = 11");
        wide.force(0);
        due("steps(2): 11 and 11 behind each", wide.steps(2), 11 + 11 * 11);
        for (int search = 0; search < 3; search++) {
            due("steps without vertices", kite().steps(search), 0);
        }

        at("promise 31");
        due("within(2)", x.within(2), 0);
        due("within(3)", x.within(3), 1);
        due("within(9999)", x.within(9999), 1);
        due("within(10000)", x.within(10000), -1);
        due("within(-1)", x.within(-1), -1);
        due("within(0) without vertices", kite().within(0), 1);
        x = kite();
        x.vertex(1);
        x.vertex(1);
        // 1 on 0: 0-1, 0-2, 0-3; on 1 and so on
        due("within(0)", x.within(0), 0);
        due("within(1)", x.within(1), 0);
        due("within(2)", x.within(2), 1);
        due("within(4)", x.within(4), 3);
        due("within(5)", x.within(5), 3);
        due("within(6)", x.within(6), 4);
        due("within(16)", x.within(16), 12);
        due("within(15)", x.within(15), 11);
    }

    /**
     * Node 0 has edges to 1, 2, 3, and 1 has one to 4. Vertex 1 (on 4 alone) is linked to 0, that to 2.
     * The row is 1, 0, 2, so the first pass takes 2 first, while 0 is still on 0 and 1.
     */
    private static void byRowOfVertices() {
        SubgraphDesk x = desk(5, 3);
        edges(x, 0, 1, 0, 2, 0, 3, 1, 4);
        links(x, 0, 1, 0, 2);
        law(x, "bars if vertex = 1 and node < 4");
        x.force(0);
        due("row: 1 at first", x.candidates(1, 0), 16);
        due("row: 0 at first", x.candidates(0, 0), 3);
        due("row: 2 behind one pass", x.candidates(2, 1), 31);
        due("row: 0 behind one pass", x.candidates(0, 1), 2);
        due("row: 2 behind two passes", x.candidates(2, 2), 17);
    }

    // ---- promise 32

    private static void likeness() {
        at("promise 32");
        SubgraphDesk x = new SubgraphDesk();
        due("kind(-1, 0) without nodes", x.kind(-1, 0), 0);
        due("kind(0, 0) without nodes", x.kind(0, 0), -1);
        x = desk(6, 0);
        due("kind(-1, 0)", x.kind(-1, 0), 1);
        edges(x, 0, 1, 1, 2, 2, 3, 3, 4, 4, 5);
        due("kind(-1, 0)", x.kind(-1, 0), 1);
        due("kind(-1, 1): ends, others", x.kind(-1, 1), 2);
        due("kind(5, 1)", x.kind(5, 1), 0);
        due("kind(4, 1)", x.kind(4, 1), 1);
        due("kind(-1, 2)", x.kind(-1, 2), 3);
        due("kind(3, 2)", x.kind(3, 2), 2);
        due("kind(-1, 12)", x.kind(-1, 12), 3);
        x.paint(5, 0);
        due("kind(5, 0): numbered as they come", x.kind(5, 0), 1);
        due("kind(-1, 12): all differ", x.kind(-1, 12), 6);
        due("kind(5, 12)", x.kind(5, 12), 5);
        due("kind(-1, 13)", x.kind(-1, 13), -1);
        due("kind(0, -1)", x.kind(0, -1), -1);
        due("kind(6, 0)", x.kind(6, 0), -1);
        due("kind(-2, 0)", x.kind(-2, 0), -1);
    }

    // ---- promises 35 to 39

    private static void seenAndFew() {
        at("promise 35");
        SubgraphDesk x = kite();
        x.vertex(1);
        x.vertex(6);
        x.link(0, 1);
        due("seen(0, 2)", x.seen(0, 2), 1);
        due("seen(0, 2) again", x.seen(0, 2), 2);
        due("seen(2, 0)", x.seen(2, 0), -2);
        due("seen(0, 5)", x.seen(0, 5), -2);
        due("seen(-1, 0)", x.seen(-1, 0), -2);
        due("seen(0, -1)", x.seen(0, -1), -2);
        for (int i = 3; i <= 6; i++) {
            due("seen", x.seen(0, 2), i);
        }
        due("seen, the 7th", x.seen(0, 2), -5);
        due("seen(9, 9)", x.seen(9, 9), -2);
        due("count(4)", x.count(4), 6);

        at("promise 36");
        due("forget()", x.forget(), 6);
        due("forget()", x.forget(), 0);
        due("count(4)", x.count(4), 0);
        due("fitting() behind it", x.fitting(), 9);

        at("promise 37");
        x.seen(0, 2);
        due("fitting(): 2 to 0, 1, 3", x.fitting(), 3);
        due("ways(): as many as ever", x.ways(), 9);
        x.seen(1, 3);
        due("fitting()", x.fitting(), 1);
        x.seen(1, 1);
        due("fitting(): both can't be", x.fitting(), 0);
        due("fitting() without vertices", kite().fitting(), 1);

        at("promise 38");
        due("look(0): none is fitting", x.look(0), -1);
        due("look(1): none is fitting", x.look(1), -1);
        x.forget();
        // vertex 0: twice on 0, 1, 3; thrice on 2. vertex 1: twice on 0, 1; thrice on 2; once on 3, 4
        due("look(0): the lowest", x.look(0), 0);
        due("look(1)", x.look(1), 3);
        x.seen(0, 2);
        due("look(0)", x.look(0), 1);
        due("look(1)", x.look(1), 1);
        due("look(2)", x.look(2), -1);
        due("look(-1)", x.look(-1), -1);
        due("look(0) without vertices", kite().look(0), -1);
        due("look(1) without vertices", kite().look(1), -1);

        at("promise 39");
        x = new SubgraphDesk();
        due("few(1, 0)", x.few(1, 0), 1_000_000_000_000L);
        due("few(1, 1)", x.few(1, 1), 900_000_000_000L);
        due("few(1, 3)", x.few(1, 3), 729_000_000_000L);
        due("few(2, 3)", x.few(2, 3), 972_000_000_000L);
        due("few(3, 3)", x.few(3, 3), 999_000_000_000L);
        due("few(20, 3)", x.few(20, 3), 1_000_000_000_000L);
        due("few(1, 13): 254,186,582,832.9 is cut", x.few(1, 13), 254_186_582_832L);
        due("few(2, 13): both parts are cut", x.few(2, 13), cutByHand());
        x.terms(1, 10);
        due("few(1, 1): all slip", x.few(1, 1), 0);
        due("few(20, 99): all slip", x.few(20, 99), 0);
        due("few(20, 19): all slip", x.few(20, 19), 1_000_000_000_000L);
        x.terms(1, 0);
        due("few(1, 99): none slips", x.few(1, 99), 1_000_000_000_000L);
        due("few(0, 1)", x.few(0, 1), -1);
        due("few(21, 1)", x.few(21, 1), -1);
        due("few(1, -1)", x.few(1, -1), -1);
        due("few(1, 100)", x.few(1, 100), -1);
    }

    private static long cutByHand() {
        long none = 1_000_000_000_000L;
        long one = 0;
        for (int i = 0; i < 13; i++) {
            one = one * 9 / 10 + none / 10;
            none = none * 9 / 10;
        }
        return none + one;
    }

    // ---- promises 41 to 46

    private static void daysAndImages() {
        at("promise 41");
        SubgraphDesk x = new SubgraphDesk();
        due("days(0, 1) without nodes", x.days(0, 1), -3);
        due("days(-1, 1) without nodes", x.days(-1, 1), -1);
        due("days(1000001, 1)", x.days(1_000_001, 1), -1);
        due("days(0, 0)", x.days(0, 0), -1);
        due("days(0, 61)", x.days(0, 61), -1);
        due("drawn ahead of any", x.drawn(0, 0), -1);
        x = desk(4, 0);
        x.edge(0, 1);
        x.terms(0, 5);
        byHand(x, 0, 1);
        byHand(x, 1, 7);
        byHand(x, 77, 60);
        byHand(x, 1_000_000, 60);
        due("days are on paper", x.count(2), 1);
        due("TIME stays", x.count(14), 5);
        x.terms(0, 996);
        byHand(x, 123, 2);
        byHand(x, 123, 3);
        byHand(x, 123, 4);
        byHand(x, 123, 60);
        x.terms(0, 999);
        due("days at the end of TIME", x.days(123, 60), 1);
        due("drawn", x.drawn(0, 1), 2);

        at("promise 42");
        x.edge(2, 3);
        x.node(1);
        due("drawn: as it was then", x.drawn(2, 1), 0);
        due("drawn: no such node then", x.drawn(4, 0), -1);
        due("drawn(-1, 0)", x.drawn(-1, 0), -1);
        due("drawn(0, 2)", x.drawn(0, 2), -1);
        due("drawn(0, -1)", x.drawn(0, -1), -1);
        due("days(0, 61)", x.days(0, 61), -1);
        due("drawn behind refused days", x.drawn(0, 1), 2);

        images();
        countsAndStatus();
    }

    private static void byHand(SubgraphDesk x, int seed, int n) {
        int nodes = x.count(0);
        boolean[][] near = new boolean[nodes][nodes];
        int[] colours = new int[nodes];
        for (int a = 0; a < nodes; a++) {
            colours[a] = x.of(a, 0);
            for (int b = 0; b < nodes; b++) {
                near[a][b] = (x.of(a, 2) >> b & 1) == 1;
            }
        }
        long s = seed;
        int[] draws = new int[4];
        int[] of = {nodes, nodes, 6, 4};
        for (int t = x.count(14), day = 0; day < n && t < 999; t++, day++) {
            for (int k = 0; k < 4; k++) {
                s = (s * 1103 + 12345) % 1_000_003;
                draws[k] = (int) (s % of[k]);
            }
            int a = draws[0];
            int b = draws[1];
            if (draws[3] <= 1 && a != b) {
                near[a][b] = !near[a][b];
                near[b][a] = near[a][b];
            } else if (draws[3] == 2) {
                colours[a] = draws[2];
            }
        }
        int ends = 0;
        int[] sets = new int[nodes];
        for (int a = 0; a < nodes; a++) {
            for (int b = 0; b < nodes; b++) {
                if (near[a][b]) {
                    ends++;
                    sets[a] |= 1 << b;
                }
            }
        }
        due("days(" + seed + ", " + n + ")", x.days(seed, n), ends / 2);
        for (int a = 0; a < nodes; a++) {
            due("drawn(" + a + ", 0)", x.drawn(a, 0), colours[a]);
            due("drawn(" + a + ", 1)", x.drawn(a, 1), sets[a]);
        }
    }

    private static void images() {
        at("promise 43");
        SubgraphDesk x = desk(3, 2);
        edges(x, 0, 1, 1, 2);
        x.link(0, 1);
        law(x, "costs 5");
        law(x, "costs 6");
        x.force(1);
        x.terms(0, 44);
        x.terms(1, 4);
        x.terms(2, 3);
        x.seen(1, 1);
        due("image(2)", x.image(2), -1);
        due("image(-1)", x.image(-1), -1);
        due("image(0)", x.image(0), 0);
        x.node(2);
        x.vertex(2);
        write(x, "\u0000\u0002");
        x.row();
        x.edge(0, 1);
        x.link(0, 1);
        x.paint(0, 4);
        x.dye(0, 4);
        x.force(0);
        law(x, "costs 7");
        x.terms(0, 0);
        x.terms(1, 0);
        x.terms(2, 0);
        x.forget();
        x.seen(0, 0);
        x.days(1, 3);
        int drawnThen = x.drawn(3, 1);
        orders(x, "join 0 to 0");
        write(x, "?\u0000\u0000");
        x.row();
        write(x, "costs ?");
        x.law();
        x.feed(0, 0, 0, 0, 0);
        x.edge(1, 3);
        due("image(1)", x.image(1), 0);

        at("promise 44");
        due("back(2)", x.back(2), -1);
        due("back(-1)", x.back(-1), -1);
        due("back(0)", x.back(0), 0);
        int[] counts = {3, 2, 2, 1, 1, 2, 0, 20};
        for (int i = 0; i < counts.length; i++) {
            due("count(" + i + ") behind back()", x.count(i), counts[i]);
        }
        due("came(0)", x.came(0), 1);
        due("came(1)", x.came(1), 14);
        due("of(0, 0)", x.of(0, 0), 1);
        due("at(0, 0)", x.at(0, 0), 1);
        due("at(0, 2)", x.at(0, 2), 2);
        due("count(13)", x.count(13), 1);
        due("count(14)", x.count(14), 44);
        due("count(15)", x.count(15), 4);
        due("count(16)", x.count(16), 3);
        due("lay: the law", x.lay(0, 0, 0), 6);
        due("fitting: what was seen, 0 - 1 and 2 - 1", x.fitting(), 2);
        due("undo", x.undo(), -3);
        due("fault stays", x.fault(), 6);
        due("stopped stays", x.stopped(), 0);
        due("smudges stay", x.smudges(), 2);
        due("the latest days stay", x.drawn(3, 1), drawnThen);
        law(x, "costs 9");
        x.force(2);
        due("another third law", x.lay(0, 0, 0), 9);
        due("back(1)", x.back(1), 0);
        due("count(0)", x.count(0), 4);
        due("count(13)", x.count(13), 0);
        x.force(2);
        due("the third law of that image", x.lay(0, 0, 0), 7);
        x.node(1);
        due("back(1) again", x.back(1), 0);
        due("count(0)", x.count(0), 4);
        SubgraphDesk y = desk(1, 0);
        due("back(1) that was not kept", y.back(1), -2);
        y.image(1);
        due("back(0) that was not kept", y.back(0), -2);
        due("back(1)", y.back(1), 0);
        y.node(1);
        y.image(1);
        y.node(1);
        y.back(1);
        due("an image is kept anew", y.count(0), 2);
        y = desk(1, 1);
        y.image(0);
        law(y, "costs 5");
        y.force(0);
        y.image(1);
        y.back(0);
        due("an image without laws", y.count(5), 0);
        due("none in force", y.count(13), -1);
        due("another first law", law(y, "costs 6"), 0);
        y.back(1);
        due("the first law of that image", y.lay(0, 0, 0), 5);
    }

    private static void countsAndStatus() {
        at("promise 45");
        SubgraphDesk x = new SubgraphDesk();
        due("count(17)", x.count(17), -1);
        due("count(-1)", x.count(-1), -1);
        x.node(9);
        x.vertex(9);
        x.terms(9, 0);
        x.edge(0, 0);
        x.link(0, 0);
        x.paint(0, 9);
        x.dye(0, 9);
        x.days(-1, 0);
        x.image(9);
        x.back(9);
        due("count(8)", x.count(8), 10);
        x.force(5);
        x.edge(0, 1);
        x.link(0, 1);
        x.paint(0, 0);
        x.dye(0, 0);
        x.seen(0, 0);
        x.back(0);
        due("count(9)", x.count(9), 7);
        x.undo();
        x.days(0, 1);
        x.node(1);
        x.paint(0, 1);
        orders(x, "join 0 to 0");
        due("count(10)", x.count(10), 4);
        x.vertex(1);
        for (int i = 0; i < 7; i++) {
            x.seen(0, 0);
            law(x, "bars");
        }
        due("count(11)", x.count(11), 2);
        x.row();
        x.law();
        x.orders();
        x.back(0);
        due("count(12): the seventh law was refused by -5", x.count(12), 2);
        due("count(11)", x.count(11), 3);
        x.of(9, 9);
        x.end(-1);
        x.way(-1, 0);
        due("what answers NONE is not refused", x.count(8), 10);
        x.image(0);
        x.row();
        x.back(0);
        due("images do not keep what was refused", x.count(12), 3);
        due("count(13)", x.count(13), -1);

        at("promise 46");
        x = new SubgraphDesk();
        due("status ahead of any", x.status(), 0);
        x.node(9);
        due("status behind node", x.status(), -1);
        x.of(0, 0);
        x.ways();
        x.forget();
        x.end(-1);
        x.fault();
        x.count(3);
        due("status: others leave it", x.status(), -1);
        x.node(1);
        due("status", x.status(), 0);
        x.seen(0, 0);
        due("status behind seen", x.status(), -2);
        x.vertex(0);
        due("status", x.status(), 0);
        x.undo();
        due("status behind undo", x.status(), -3);
        x.image(0);
        due("status", x.status(), 0);
        x.row();
        due("status behind row", x.status(), -6);
        x.back(0);
        due("status", x.status(), 0);
        x.force(4);
        due("status behind force", x.status(), -2);
        x.force(-1);
        due("status: NONE is no refusal", x.status(), 0);
        x.days(0, 0);
        due("status behind days", x.status(), -1);
        x.days(0, 1);
        due("status", x.status(), 0);
        x.orders();
        due("status behind orders", x.status(), -6);
        x.terms(0, 0);
        due("status", x.status(), 0);
    }
}
