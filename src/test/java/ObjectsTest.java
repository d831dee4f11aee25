/** Promises 1 to 5: a new yard, and objects with their pieces and references. */
public final class ObjectsTest {
    private static final int NONE = -1;
    private static final Check check = new Check("ObjectsTest");

    public static void main(String[] args) {
        newYard();
        objects();
        pieces();
        piecesBesideAnImage();
        mostPieces();
        references();
        referencesOfLaidAndOfPatches();
        reach();
        reachOfAnImage();
        check.end();
    }

    private static void newYard() {
        LinkfactoryYard x = new LinkfactoryYard();
        for (int what = 0; what <= 9; what++) {
            check.due("P1 many(" + what + ")", x.many(what), 0);
        }
        for (int word = 0; word < 200; word++) {
            check.due("P1 map of " + word, x.map(word, 0), 0);
            check.due("P1 held by " + word, x.map(word, 1), NONE);
        }
        for (int symbol = 0; symbol < 16; symbol++) {
            check.due("P1 stands " + symbol, x.ofSymbol(symbol, 0), NONE);
            check.due("P1 gate " + symbol, x.gate(symbol, false), false);
        }
        check.due("P1 reach", x.reach(40), 40);
        check.due("P1 digest", x.digest(), -4651575069155978577L);
        check.outside("P1 no object", () -> x.faultsWithout(0));
        check.outside("P1 no piece", () -> x.ofPiece(0, 0));
        check.outside("P1 no fault", () -> x.fault(0, 0));
        check.outside("P1 no run", () -> x.stack(0, 0));
    }

    private static void objects() {
        LinkfactoryYard x = new LinkfactoryYard();
        for (int i = 0; i < 8; i++) {
            check.due("P2 object " + i, x.object(i % 2 == 1), i);
            check.due("P2 many objects", x.many(0), i + 1);
        }
        check.badState("P2 the ninth plain one", () -> x.object(false));
        check.badState("P2 the ninth archived one", () -> x.object(true));
        check.due("P2 still 8", x.many(0), 8);
        check.due("P2 no pieces", x.many(1), 0);
        x.link();
        check.due("P2 plain ones are in", x.many(2), 4);
    }

    private static void pieces() {
        LinkfactoryYard x = new LinkfactoryYard();
        x.object(false);
        x.object(true);
        check.due("P3 first", x.piece(1, 15, 20, true), 0);
        check.due("P3 second", x.piece(0, 0, 1, false), 1);
        int[] first = {1, 15, 20, 0, 0, NONE, 0};
        int[] second = {0, 0, 1, 1, 0, NONE, 0};
        for (int what = 0; what <= 6; what++) {
            check.due("P3 of the first, " + what, x.ofPiece(0, what), first[what]);
            check.due("P3 of the second, " + what, x.ofPiece(1, what), second[what]);
        }
        check.outside("P3 object -1", () -> x.piece(-1, 0, 1, false));
        check.outside("P3 object 2", () -> x.piece(2, 0, 1, false));
        check.outside("P3 symbol -1", () -> x.piece(0, -1, 1, false));
        check.outside("P3 symbol 16", () -> x.piece(0, 16, 1, false));
        check.badArgument("P3 size 0", () -> x.piece(0, 0, 0, false));
        check.badArgument("P3 size 21", () -> x.piece(0, 0, 21, false));
        check.badArgument("P3 size far off", () -> x.piece(0, 0, Integer.MIN_VALUE, false));
        check.outside("P3 object before size", () -> x.piece(2, 0, 0, false));
        check.outside("P3 symbol before size", () -> x.piece(0, 16, 0, false));
        check.due("P3 none was added", x.many(1), 2);
    }

    private static void piecesBesideAnImage() {
        LinkfactoryYard x = new LinkfactoryYard();
        x.object(false);
        x.piece(0, 0, 4, false);
        x.link();
        x.piece(0, 1, 4, false);
        check.due("P3 not laid", x.ofPiece(1, 5), NONE);
        check.due("P3 the image stays", x.many(3), 4);
        check.due("P3 its symbol stands for nothing yet", x.ofSymbol(1, 0), NONE);
        x.link();
        check.due("P3 laid by the next link", x.ofPiece(1, 5), 4);
    }

    private static void mostPieces() {
        LinkfactoryYard x = new LinkfactoryYard();
        x.object(false);
        for (int i = 0; i < 40; i++) {
            check.due("P3 piece " + i, x.piece(0, i % 16, 1, true), i);
        }
        check.badState("P3 the 41st", () -> x.piece(0, 0, 1, false));
        check.badArgument("P3 size before 40", () -> x.piece(0, 0, 21, false));
        check.outside("P3 object before 40", () -> x.piece(1, 0, 1, false));
        x.refer(39, 3, true);
        check.due("P3 the 40th has its reference", x.ofPiece(39, 4), 1);
        check.due("P3 links", x.link(), 0);
        check.badState("P3 no piece left for a patch", () -> x.patch(0, 1, 0, NONE));
    }

    private static void references() {
        LinkfactoryYard x = new LinkfactoryYard();
        x.object(false);
        x.piece(0, 0, 1, false);
        x.piece(0, 1, 1, false);
        check.due("P4 one", x.refer(0, 15, true), 1);
        check.due("P4 two", x.refer(0, 0, false), 2);
        check.due("P4 one of the other", x.refer(1, 0, false), 1);
        check.due("P4 three", x.refer(0, 0, false), 3);
        check.badState("P4 four", () -> x.refer(0, 0, false));
        check.outside("P4 piece -1", () -> x.refer(-1, 0, true));
        check.outside("P4 piece 2", () -> x.refer(2, 0, true));
        check.outside("P4 symbol -1", () -> x.refer(1, -1, true));
        check.outside("P4 symbol 16", () -> x.refer(1, 16, true));
        check.outside("P4 symbol before four", () -> x.refer(0, 16, true));
        check.due("P4 still three", x.ofPiece(0, 4), 3);
        check.due("P4 what it refers to is missed", x.fault(0, 1), 15);
    }

    private static void referencesOfLaidAndOfPatches() {
        LinkfactoryYard x = new LinkfactoryYard();
        x.object(false);
        x.object(true);
        x.piece(0, 0, 3, false);
        x.piece(1, 5, 3, false);
        x.link();
        check.badState("P4 laid", () -> x.refer(0, 0, true));
        check.due("P4 not in, so not laid", x.refer(1, 0, true), 1);
        x.patch(0, 2, 0, NONE);
        check.due("P4 replaced, so not laid any more", x.refer(0, 0, true), 1);
        check.badState("P4 of a patch", () -> x.refer(2, 0, true));
        x.link();
        check.badState("P4 of a patch that is gone", () -> x.refer(2, 0, true));
        check.badState("P4 laid again", () -> x.refer(0, 0, true));
    }

    private static void reach() {
        LinkfactoryYard x = new LinkfactoryYard();
        check.due("P5 at first", x.reach(5), 40);
        check.due("P5 smallest", x.reach(100), 5);
        check.badArgument("P5 4", () -> x.reach(4));
        check.badArgument("P5 101", () -> x.reach(101));
        check.badArgument("P5 far off", () -> x.reach(Integer.MIN_VALUE));
        check.due("P5 largest", x.reach(7), 100);
        check.due("P5 the last", x.reach(7), 7);
    }

    private static void reachOfAnImage() {
        LinkfactoryYard x = new LinkfactoryYard();
        x.object(false);
        x.piece(0, 0, 11, false);
        x.piece(0, 1, 2, false);
        x.refer(0, 1, true);
        x.refer(1, 0, true);
        x.reach(11);
        check.due("P5 in reach", x.link(), 0);
        x.reach(10);
        check.due("P5 the image keeps its reach", x.steps(0, 0), 1);
        check.due("P5 link has the new one", x.fault(0, 0), 3);
        x.reach(100);
        x.patch(1, 2, 0, NONE);
        check.due("P5 the image keeps its reach for jumps", x.ofSymbol(1, 2), 11);
        check.due("P5 by the jump", x.steps(0, 0), 2);
    }
}
