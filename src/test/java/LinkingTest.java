/** Promises 6 to 12: linking, its faults, and what there is then. */
public final class LinkingTest {
    private static final int NONE = -1;
    private static final Check check = new Check("LinkingTest");

    public static void main(String[] args) {
        orderOfArchives();
        archivesThatAreNotNeeded();
        archivesForTheFirstOfTheirSymbols();
        strongBeforeWeak();
        islandsInTheirOrder();
        islandsThatPushOthersAway();
        islandsOfTheFirstForTheFirst();
        reachBothWays();
        linkWithRunsAndPatches();
        faultsOfSymbols();
        faultsOfReach();
        faultsOfLength();
        faultsKeepTheImage();
        wrongArguments();
        numbersOfThings();
        check.end();
    }

    /** The plain ones first, then each time the first archive that is needed: also one with a smaller number. */
    private static void orderOfArchives() {
        LinkfactoryYard x = new LinkfactoryYard();
        x.object(true);
        x.object(false);
        x.object(true);
        x.object(false);
        x.piece(0, 2, 4, false);
        x.piece(1, 0, 5, false);
        x.piece(2, 1, 3, false);
        x.piece(3, 3, 2, false);
        x.piece(1, 4, 6, false);
        x.refer(1, 1, false);
        x.refer(2, 2, false);
        check.due("P6 no faults", x.link(), 0);
        check.due("P12 all are in", x.many(2), 4);
        int[] places = {16, 0, 13, 11, 5};
        for (int piece = 0; piece < 5; piece++) {
            check.due("P9 place of " + piece, x.ofPiece(piece, 5), places[piece]);
        }
        check.due("P12 words", x.many(3), 20);
        check.due("P11 behind the last", x.map(20, 0), 0);
        check.due("P8 place of symbol 1", x.ofSymbol(1, 1), 13);
        check.due("P8 place of symbol 2", x.ofSymbol(2, 1), 16);
    }

    private static void archivesThatAreNotNeeded() {
        LinkfactoryYard x = new LinkfactoryYard();
        x.object(false);
        x.object(true);
        x.object(true);
        x.object(true);
        x.piece(0, 0, 1, false);
        x.piece(0, 1, 1, true);
        x.refer(0, 1, false);
        x.refer(0, 2, false);
        x.piece(1, 1, 1, false);
        x.piece(2, 2, 1, true);
        x.piece(3, 2, 1, false);
        check.due("P6 no faults", x.link(), 0);
        check.due("P6 a weak one is had, and the first of two is enough", x.many(2), 2);
        check.due("P8 the weak one stands", x.ofSymbol(1, 0), 1);
        check.due("P8 that of the first archive", x.ofSymbol(2, 0), 3);
        check.due("P9 not laid", x.ofPiece(2, 5), NONE);
        check.due("P9 nor the second archive's", x.ofPiece(4, 5), NONE);
    }

    /** Each archive is needed for its first piece's symbol, and has others behind it. */
    private static void archivesForTheFirstOfTheirSymbols() {
        LinkfactoryYard x = new LinkfactoryYard();
        x.object(false);
        x.object(true);
        x.object(true);
        x.piece(0, 15, 1, false);
        x.piece(1, 0, 1, true);
        x.piece(1, 8, 1, false);
        x.piece(2, 9, 1, false);
        x.piece(2, 7, 1, false);
        x.refer(0, 0, false);
        x.refer(1, 9, true);
        x.refer(2, 15, false);
        check.due("P6 links", x.link(), 0);
        check.due("P12 all are in", x.many(2), 3);
        check.due("P8 symbol 0 has what the archive has", x.ofSymbol(0, 0), 1);
        check.due("P23 without that archive 0 is missing", x.faultsWithout(1), 1);
        check.due("P23 without the other one 9 is", x.faultsWithout(2), 1);
        check.due("P23 without the plain one there is nothing", x.faultsWithout(0), 0);
    }

    private static void strongBeforeWeak() {
        LinkfactoryYard x = new LinkfactoryYard();
        x.object(true);
        x.object(false);
        x.piece(0, 0, 2, true);
        x.piece(1, 0, 3, true);
        x.piece(1, 0, 4, true);
        x.piece(1, 1, 1, true);
        x.piece(1, 1, 1, false);
        x.piece(0, 1, 1, true);
        check.due("P6 weak ones are no fault", x.link(), 0);
        check.due("P8 the first weak one that is in", x.ofSymbol(0, 0), 1);
        check.due("P8 the strong one behind it", x.ofSymbol(1, 0), 4);
        check.due("P6 a weak one is laid too", x.ofPiece(3, 5), 7);
        check.due("P9 strong", x.ofPiece(4, 3), 1);
        check.due("P9 weak", x.ofPiece(3, 3), 0);
    }

    /** With reach 5: piece 0 at 0 needs symbols 2 and 1 (in that order), and piece 1 as well. */
    private static void islandsInTheirOrder() {
        LinkfactoryYard x = new LinkfactoryYard();
        x.object(false);
        x.object(false);
        x.piece(0, 0, 2, false);
        x.piece(0, 5, 1, false);
        x.piece(1, 1, 10, false);
        x.piece(1, 2, 10, false);
        x.refer(0, 2, true);
        x.refer(0, 1, true);
        x.refer(0, 0, true);
        x.refer(1, 1, true);
        x.refer(1, 2, true);
        x.refer(1, 2, false);
        x.reach(5);
        check.due("P6 islands help", x.link(), 0);
        check.due("P12 islands", x.many(4), 1);
        check.due("P8 1 is in reach", x.ofSymbol(1, 1), 4);
        check.due("P11 an island", x.map(3, 0), 2);
        check.due("P11 for symbol 2", x.map(3, 1), 2);
        check.due("P10 by the island", x.steps(0, 0), 2);
        check.due("P10 in reach", x.steps(0, 1), 1);
        check.due("P10 itself", x.steps(0, 2), 1);
        check.due("P10 far", x.steps(1, 2), 1);
        check.due("P10 by the same island", x.steps(1, 1), 2);
        check.outside("P10 no such reference", () -> x.steps(0, 3));
        check.outside("P10 reference -1", () -> x.steps(0, -1));
        check.outside("P10 no references", () -> x.steps(2, 0));
        check.outside("P10 no such piece", () -> x.steps(4, 0));
        check.outside("P10 piece -1", () -> x.steps(-1, 0));
    }

    /** Each island pushes what is behind it: at last symbol 2 is out of reach too, and gets the later island. */
    private static void islandsThatPushOthersAway() {
        LinkfactoryYard x = new LinkfactoryYard();
        int[] sizes = {1, 3, 10, 2};
        for (int i = 0; i < 4; i++) {
            x.object(false);
            x.piece(i, i, sizes[i], false);
        }
        x.refer(0, 2, true);
        x.refer(0, 3, true);
        x.refer(1, 3, true);
        x.refer(3, 0, true);
        x.reach(5);
        check.due("P6 links", x.link(), 0);
        check.due("P12 islands", x.many(4), 4);
        int[][] islands = {{1, 3}, {2, 2}, {6, 3}, {19, 0}};
        for (int[] island : islands) {
            check.due("P11 an island at " + island[0], x.map(island[0], 0), 2);
            check.due("P11 for the symbol", x.map(island[0], 1), island[1]);
        }
        check.due("P8 pushed away", x.ofSymbol(2, 1), 7);
        check.due("P9 pushed away", x.ofPiece(1, 5), 3);
        check.due("P10 by the second island", x.steps(0, 0), 2);
    }

    private static void islandsOfTheFirstForTheFirst() {
        LinkfactoryYard x = new LinkfactoryYard();
        x.object(false);
        x.piece(0, 0, 20, false);
        x.piece(0, 1, 3, false);
        x.refer(1, 0, true);
        x.reach(5);
        check.due("P6 links", x.link(), 0);
        check.due("P11 an island", x.map(23, 0), 2);
        check.due("P11 for symbol 0", x.map(23, 1), 0);
        check.due("P11 nothing behind it", x.map(24, 1), NONE);
        check.due("P12 one island", x.many(4), 1);
    }

    private static void reachBothWays() {
        LinkfactoryYard x = new LinkfactoryYard();
        x.object(false);
        x.piece(0, 0, 15, false);
        x.piece(0, 1, 15, false);
        x.refer(0, 1, true);
        x.refer(1, 0, true);
        x.reach(15);
        check.due("P6 links", x.link(), 0);
        check.due("P12 no island", x.many(4), 0);
        check.due("P10 forwards, just in reach", x.steps(0, 0), 1);
        check.due("P10 backwards, just in reach", x.steps(1, 0), 1);
        x.reach(14);
        int[][] due = {{3, 0}, {3, 1}};
        check.due("P6 either way, the islands are out of reach too", x.link(), 2);
        dueFaults(x, due);
    }

    private static void linkWithRunsAndPatches() {
        LinkfactoryYard x = new LinkfactoryYard();
        x.object(false);
        x.piece(0, 0, 4, false);
        x.link();
        x.run(0);
        check.badState("P6 with a run", () -> x.link());
        x.piece(0, 0, 4, false);
        check.badState("P6 with a run, and a fault", () -> x.link());
        x.patch(0, 2, 0, NONE);
        x.gate(0, true);
        check.due("P6 a patch waits", x.many(8), 1);
        x.back(0);
        check.due("P6 with a fault all stays", x.link(), 1);
        check.due("P6 the patch stays", x.many(7), 1);
        check.due("P6 its piece is laid", x.ofPiece(2, 5), 4);
        LinkfactoryYard y = new LinkfactoryYard();
        y.object(false);
        y.piece(0, 0, 4, false);
        y.link();
        y.patch(0, 2, 0, NONE);
        y.gate(0, true);
        check.due("P6 links again", y.link(), 0);
        check.due("P6 no patches any more", y.many(7), 0);
        check.outside("P6 no patch", () -> y.ofPatch(0, 0));
        check.due("P6 its piece keeps its number", y.many(1), 2);
        check.due("P6 but is not laid", y.ofPiece(1, 5), NONE);
        check.due("P6 nor of an object", y.ofPiece(1, 0), NONE);
        check.due("P6 the object's piece stands again", y.ofSymbol(0, 0), 0);
        check.due("P6 the gate stays", y.gate(0, false), true);
        check.due("P6 the next patch is the first", y.patch(0, 1, 0, NONE), 0);
        check.due("P6 the next piece is the third", y.ofPatch(0, 1), 2);
        check.due("P6 and is laid", y.ofPiece(2, 5), 4);
        y.link();
        y.run(0);
        y.patch(0, 1, 0, NONE);
        check.due("P6 the next one waits", y.ofPatch(0, 3), 0);
    }

    private static void faultsOfSymbols() {
        LinkfactoryYard x = new LinkfactoryYard();
        x.object(false);
        x.object(false);
        x.object(true);
        x.piece(0, 7, 1, false);
        x.piece(0, 3, 20, false);
        x.piece(1, 7, 20, false);
        x.piece(1, 3, 1, false);
        x.piece(1, 3, 1, false);
        x.piece(2, 9, 1, false);
        x.piece(2, 9, 1, false);
        x.refer(0, 12, true);
        x.refer(0, 1, false);
        x.refer(4, 12, false);
        x.refer(5, 11, false);
        x.reach(5);
        x.refer(1, 0, false);
        int[][] due = {{1, 3}, {1, 7}, {2, 0}, {2, 1}, {2, 12}};
        check.due("P6 five faults", x.link(), 5);
        dueFaults(x, due);
        check.due("P6 no image", x.many(9), 0);
        check.due("P8 nothing stands", x.ofSymbol(7, 0), NONE);
        x.refer(0, 9, false);
        int[][] withArchive = {{1, 3}, {1, 7}, {1, 9}, {2, 0}, {2, 1}, {2, 11}, {2, 12}};
        dueFaults(x, withArchive);
    }

    /** An object of 30 words: its islands are at 30 and 31, that for 1 before that for 2, if 2 was in reach first. */
    private static void faultsOfReach() {
        LinkfactoryYard x = new LinkfactoryYard();
        x.object(false);
        x.object(false);
        x.piece(0, 0, 15, false);
        x.piece(0, 3, 15, false);
        x.piece(1, 2, 20, false);
        x.piece(1, 1, 20, false);
        x.refer(0, 2, true);
        x.refer(0, 1, true);
        x.refer(0, 2, true);
        x.refer(1, 1, true);
        x.reach(20);
        int[][] due = {{3, 1}, {3, 2}};
        check.due("P6 two faults", x.link(), 2);
        dueFaults(x, due);
        x.reach(31);
        check.due("P6 none", x.link(), 0);
        check.due("P6 an island for 1", x.map(30, 1), 1);
        x.reach(30);
        int[][] one = {{3, 2}};
        dueFaults(x, one);
    }

    private static void faultsOfLength() {
        LinkfactoryYard x = new LinkfactoryYard();
        x.object(false);
        for (int i = 0; i < 10; i++) {
            x.piece(0, i, 20, false);
        }
        check.due("P6 200 words", x.link(), 0);
        check.due("P12 all of them", x.many(3), 200);
        check.due("P11 the last", x.map(199, 1), 9);
        x.object(false);
        x.piece(1, 10, 1, false);
        int[][] one = {{4, NONE}};
        check.due("P6 201 words", x.link(), 1);
        dueFaults(x, one);
        x.refer(10, 0, true);
        int[][] two = {{4, NONE}};
        dueFaults(x, two);
        x.piece(0, 11, 20, true);
        x.refer(11, 0, true);
        int[][] three = {{3, 0}, {4, NONE}};
        x.piece(0, 12, 20, true);
        x.piece(0, 13, 20, true);
        dueFaults(x, three);
    }

    private static void faultsKeepTheImage() {
        LinkfactoryYard x = new LinkfactoryYard();
        x.object(false);
        x.piece(0, 0, 4, false);
        x.link();
        x.reach(9);
        x.object(false);
        x.piece(1, 0, 4, false);
        long before = x.digest();
        check.due("P6 a fault", x.link(), 1);
        check.due("P6 all stays", x.digest(), before);
        check.due("P12 one object is in the image", x.many(2), 1);
        check.due("P12 there is an image", x.many(9), 1);
    }

    private static void dueFaults(LinkfactoryYard x, int[][] due) {
        for (int k = 0; k < due.length; k++) {
            check.due("P7 code of " + k, x.fault(k, 0), due[k][0]);
            check.due("P7 symbol of " + k, x.fault(k, 1), due[k][1]);
        }
        check.outside("P7 behind the last", () -> x.fault(due.length, 0));
        check.outside("P7 -1", () -> x.fault(-1, 0));
        check.badArgument("P7 what 2", () -> x.fault(due.length - 1, 2));
        check.badArgument("P7 what -1", () -> x.fault(0, -1));
        check.outside("P7 the fault before what", () -> x.fault(due.length, 2));
    }

    private static void wrongArguments() {
        LinkfactoryYard x = new LinkfactoryYard();
        x.object(false);
        x.piece(0, 0, 4, false);
        check.outside("P10 not laid", () -> x.steps(0, 0));
        x.refer(0, 0, true);
        check.outside("P10 not laid, with a reference", () -> x.steps(0, 0));
        x.link();
        check.due("P10 laid", x.steps(0, 0), 1);
        check.outside("P8 symbol 16", () -> x.ofSymbol(16, 0));
        check.outside("P8 symbol -1", () -> x.ofSymbol(-1, 4));
        check.badArgument("P8 what 4", () -> x.ofSymbol(15, 4));
        check.badArgument("P8 what -1", () -> x.ofSymbol(0, -1));
        check.outside("P9 piece 1", () -> x.ofPiece(1, 0));
        check.outside("P9 piece -1", () -> x.ofPiece(-1, 7));
        check.badArgument("P9 what 7", () -> x.ofPiece(0, 7));
        check.badArgument("P9 what -1", () -> x.ofPiece(0, -1));
        check.outside("P11 word 200", () -> x.map(200, 0));
        check.outside("P11 word -1", () -> x.map(-1, 2));
        check.badArgument("P11 what 2", () -> x.map(199, 2));
        check.badArgument("P11 what -1", () -> x.map(0, -1));
        check.badArgument("P12 what 10", () -> x.many(10));
        check.badArgument("P12 what -1", () -> x.many(-1));
    }

    /** A yard with all things of many(): three runs, a jump, an island, a patch that is done, and one that waits. */
    private static void numbersOfThings() {
        LinkfactoryYard x = new LinkfactoryYard();
        x.object(false);
        x.object(true);
        x.object(false);
        x.piece(0, 0, 3, false);
        x.piece(2, 1, 12, false);
        x.piece(2, 2, 2, false);
        x.refer(0, 1, true);
        x.refer(0, 2, true);
        x.reach(6);
        x.link();
        x.patch(1, 4, 0, 2);
        x.run(0);
        x.run(0);
        x.run(2);
        x.call(0, 0);
        x.patch(0, 1, 0, NONE);
        int[] many = {3, 5, 2, 11, 1, 1, 3, 2, 1, 1};
        for (int what = 0; what <= 9; what++) {
            check.due("P12 many(" + what + ")", x.many(what), many[what]);
        }
        int[][] symbols = {{0, 0, NONE, 1}, {3, 18, 4, 0}, {2, 16, NONE, 0}, {NONE, NONE, NONE, 0}};
        for (int symbol = 0; symbol < 4; symbol++) {
            for (int what = 0; what <= 3; what++) {
                check.due("P8 of symbol " + symbol + ", " + what, x.ofSymbol(symbol, what), symbols[symbol][what]);
            }
        }
        check.due("P9 two runs have it", x.ofPiece(0, 6), 2);
        check.due("P9 one has the patch's", x.ofPiece(3, 6), 1);
        check.due("P9 the replaced one is not laid", x.ofPiece(1, 5), NONE);
        check.due("P11 a jump", x.map(4, 0), 3);
        check.due("P11 for symbol 1", x.map(4, 1), 1);
        check.due("P11 free behind it", x.map(5, 0), 0);
        check.due("P11 nothing there", x.map(5, 1), NONE);
        check.due("P11 the patch's piece", x.map(21, 1), 3);
        check.due("P11 of a piece", x.map(21, 0), 1);
    }
}
