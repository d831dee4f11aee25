/** "1. Objects" and promises 1 to 5, sentence by sentence: what is accepted at last, and what is refused at first. */
public final class ObjectEdgesTest {
    private static final int NONE = -1;
    private static final Check check = new Check("ObjectEdgesTest");

    public static void main(String[] args) {
        atMostEightObjects();
        piecesOfTheFirstAndTheLastObject();
        symbolsAreZeroToFifteen();
        sizesAreOneToTwenty();
        atMostFortyPieces();
        fortyPiecesWithThoseOfPatches();
        fortyPiecesEver();
        theImageStaysAsItIs();
        piecesOfTheFirstAndTheLastNumber();
        atMostThreeReferences();
        notOfAPatch();
        notOfAPatchThatIsGone();
        notLaid();
        laidIsWhatCounts();
        reachIsFiveToHundred();
        theImageKeepsItsReach();
        the512thCall();
        check.end();
    }

    private static LinkfactoryYard withObjects(int objects) {
        LinkfactoryYard x = new LinkfactoryYard();
        for (int i = 0; i < objects; i++) {
            x.object(false);
        }
        return x;
    }

    private static LinkfactoryYard withPieces(int pieces) {
        LinkfactoryYard x = withObjects(1);
        for (int i = 0; i < pieces; i++) {
            x.piece(0, i % 16, 1, i >= 16);
        }
        return x;
    }

    /** "At most 8 OBJECTS, numbered from 0", "if there are 8". */
    private static void atMostEightObjects() {
        check.due("P2 the first plain one", withObjects(0).object(false), 0);
        check.due("P2 the first archived one", withObjects(0).object(true), 0);
        check.due("P2 the eighth plain one", withObjects(7).object(false), 7);
        check.due("P2 the eighth archived one", withObjects(7).object(true), 7);
        check.badState("P2 the ninth plain one", () -> withObjects(8), x -> x.object(false));
        check.badState("P2 the ninth archived one", () -> withObjects(8), x -> x.object(true));
        LinkfactoryYard x = withObjects(8);
        for (int what = 1; what <= 9; what++) {
            check.due("P2 without pieces, an image, or runs: many(" + what + ")", x.many(what), 0);
        }
    }

    /** "if there is no such OBJECT". */
    private static void piecesOfTheFirstAndTheLastObject() {
        for (int objects = 1; objects <= 8; objects++) {
            int last = objects - 1;
            int count = objects;
            LinkfactoryYard x = withObjects(count);
            check.due("P3 of the last of " + count, x.piece(last, 0, 1, false), 0);
            check.due("P9 that is its object", x.ofPiece(0, 0), last);
            check.due("P3 of the first of " + count, x.piece(0, 0, 1, false), 1);
            check.due("P9 that is its object", x.ofPiece(1, 0), 0);
            check.outside("P3 behind the last of " + count, () -> withObjects(count), y -> y.piece(count, 0, 1, false));
        }
    }

    /** "SYMBOLS are 0 to 15". */
    private static void symbolsAreZeroToFifteen() {
        LinkfactoryYard x = withObjects(1);
        for (int symbol = 0; symbol <= 15; symbol++) {
            check.due("P3 symbol " + symbol, x.piece(0, symbol, 1, false), symbol);
            check.due("P9 its symbol", x.ofPiece(symbol, 1), symbol);
            check.due("P4 to symbol " + (15 - symbol), x.refer(symbol, 15 - symbol, false), 1);
        }
        check.due("P6 all stand for something", x.link(), 0);
        check.due("P8 the first", x.ofSymbol(0, 0), 0);
        check.due("P8 the last", x.ofSymbol(15, 0), 15);
        check.due("P13 a run in the last", x.run(15), 0);
        check.due("P14 that calls the first", x.call(0, 0), 0);
        check.due("P18 a patch for the last, to the last", x.patch(15, 1, 0, 15), 0);
        check.due("P18 a patch for the first, to the first", x.patch(0, 1, 0, 0), 1);
        check.due("P19 a gate on the last", x.gate(15, true), false);
        check.due("P19 a gate on the first", x.gate(0, true), false);
        for (int off : new int[] {-1, 16}) {
            check.outside("P3 symbol " + off, () -> withObjects(1), y -> y.piece(0, off, 1, false));
            check.outside("P4 symbol " + off, () -> withPieces(1), y -> y.refer(0, off, false));
        }
    }

    /** "with a SIZE, 1 to 20 WORDS". */
    private static void sizesAreOneToTwenty() {
        LinkfactoryYard x = withObjects(1);
        check.due("P3 size 1", x.piece(0, 0, 1, false), 0);
        check.due("P3 size 20", x.piece(0, 1, 20, false), 1);
        check.due("P9 of 1 word", x.ofPiece(0, 2), 1);
        check.due("P9 of 20 words", x.ofPiece(1, 2), 20);
        x.link();
        check.due("P12 21 words", x.many(3), 21);
        check.due("P18 size 1", x.patch(0, 1, 0, NONE), 0);
        check.due("P18 size 20", x.patch(1, 20, 0, NONE), 1);
        check.due("P9 of 1 word too", x.ofPiece(2, 2), 1);
        check.due("P9 of 20 words too", x.ofPiece(3, 2), 20);
        for (int off : new int[] {0, 21}) {
            check.badArgument("P3 size " + off, () -> withObjects(1), y -> y.piece(0, 0, off, false));
            check.badArgument("P3 size before 40, " + off, () -> withPieces(40), y -> y.piece(0, 0, off, false));
            check.outside("P3 object before size, " + off, () -> withObjects(1), y -> y.piece(1, 0, off, false));
            check.outside("P3 symbol before size, " + off, () -> withObjects(1), y -> y.piece(0, 16, off, false));
        }
    }

    /** "At most 40 PIECES ever, numbered from 0", "if there were 40". */
    private static void atMostFortyPieces() {
        check.due("P3 the first", withPieces(0).piece(0, 0, 1, false), 0);
        check.due("P3 the 40th", withPieces(39).piece(0, 0, 1, true), 39);
        check.badState("P3 the 41st, strong", () -> withPieces(40), x -> x.piece(0, 0, 1, false));
        check.badState("P3 the 41st, weak", () -> withPieces(40), x -> x.piece(0, 0, 20, true));
        check.outside("P3 object before 40", () -> withPieces(40), x -> x.piece(1, 0, 1, false));
        check.outside("P3 symbol before 40", () -> withPieces(40), x -> x.piece(0, 16, 1, false));
        check.due("P12 of 40", withPieces(40).many(1), 40);
    }

    /** "each of an OBJECT or of a PATCH". */
    private static void fortyPiecesWithThoseOfPatches() {
        LinkfactoryYard x = patchedTo(39);
        check.due("P18 the 40th is of a patch", x.patch(0, 1, 0, NONE), 1);
        check.due("P20 its number", x.ofPatch(1, 1), 39);
        check.due("P3 the 40th is of an object", patchedTo(39).piece(0, 0, 1, true), 39);
        check.badState("P3 the 41st", () -> patchedTo(40), y -> y.piece(0, 0, 1, true));
        check.badState("P18 the 41st", () -> patchedTo(40), y -> y.patch(0, 1, 0, NONE));
        check.badArgument("P18 size before 40", () -> patchedTo(40), y -> y.patch(0, 21, 0, NONE));
        check.badArgument("P18 group before 40", () -> patchedTo(40), y -> y.patch(0, 1, 4, NONE));
        check.outside("P18 symbol before 40", () -> patchedTo(40), y -> y.patch(16, 1, 0, NONE));
    }

    /** Linked, and with one patch, that is the last of so many pieces. */
    private static LinkfactoryYard patchedTo(int pieces) {
        LinkfactoryYard x = withPieces(pieces - 1);
        x.link();
        x.patch(0, 1, 0, NONE);
        return x;
    }

    private static LinkfactoryYard patchedToFortyAndLinked() {
        LinkfactoryYard x = patchedTo(40);
        x.link();
        return x;
    }

    /** "(their PIECES keep their numbers ..)": also those of patches that are gone are among the 40. */
    private static void fortyPiecesEver() {
        LinkfactoryYard x = patchedToFortyAndLinked();
        check.due("P12 no patch", x.many(7), 0);
        check.due("P12 40 pieces ever", x.many(1), 40);
        check.due("P9 of no object", x.ofPiece(39, 0), NONE);
        check.badState("P3 there were 40", () -> patchedToFortyAndLinked(), y -> y.piece(0, 0, 1, true));
        check.badState("P18 there were 40", () -> patchedToFortyAndLinked(), y -> y.patch(0, 1, 0, NONE));
    }

    /** "(an IMAGE that there is stays as it is)". */
    private static void theImageStaysAsItIs() {
        LinkfactoryYard x = Yards.running();
        LinkfactoryYard twin = Yards.running();
        check.due("P3 a piece beside runs and patches", x.piece(0, 0, 20, false), 10);
        for (int what = 2; what <= 9; what++) {
            check.due("P12 many(" + what + ")", x.many(what), twin.many(what));
        }
        for (int symbol = 0; symbol < 16; symbol++) {
            for (int what = 0; what <= 3; what++) {
                check.due("P8 symbol " + symbol, x.ofSymbol(symbol, what), twin.ofSymbol(symbol, what));
            }
        }
        for (int word = 0; word < 200; word++) {
            check.due("P11 word " + word, x.map(word, 1), twin.map(word, 1));
        }
        check.due("P9 not laid", x.ofPiece(10, 5), NONE);
        check.due("P9 no references", x.ofPiece(10, 4), 0);
        check.due("P4 so it can have one", x.refer(10, 0, true), 1);
    }

    /** "if there is no such PIECE". */
    private static void piecesOfTheFirstAndTheLastNumber() {
        for (int pieces : new int[] {1, 2, 39, 40}) {
            LinkfactoryYard x = withPieces(pieces);
            check.due("P4 the last of " + pieces, x.refer(pieces - 1, 0, true), 1);
            check.due("P9 it has it", x.ofPiece(pieces - 1, 4), 1);
            check.due("P4 the first of " + pieces, x.refer(0, 0, true), pieces == 1 ? 2 : 1);
            check.outside("P4 behind the last of " + pieces, () -> withPieces(pieces), y -> y.refer(pieces, 0, true));
            check.outside("P4 before the first of " + pieces, () -> withPieces(pieces), y -> y.refer(-1, 0, true));
        }
    }

    private static LinkfactoryYard withReferences(int references) {
        LinkfactoryYard x = withPieces(2);
        for (int i = 0; i < references; i++) {
            x.refer(1, i, i % 2 == 0);
        }
        return x;
    }

    /** "at most 3 REFERENCES, numbered from 0", "if it has 3". */
    private static void atMostThreeReferences() {
        for (int i = 0; i < 3; i++) {
            check.due("P4 near, behind " + i, withReferences(i).refer(1, 0, true), i + 1);
            check.due("P4 far, behind " + i, withReferences(i).refer(1, 0, false), i + 1);
        }
        check.badState("P4 near, behind 3", () -> withReferences(3), x -> x.refer(1, 0, true));
        check.badState("P4 far, behind 3", () -> withReferences(3), x -> x.refer(1, 15, false));
        check.outside("P4 symbol before 3", () -> withReferences(3), x -> x.refer(1, 16, false));
        check.outside("P4 piece before 3", () -> withReferences(3), x -> x.refer(2, 0, false));
        check.due("P4 another piece has none", withReferences(3).refer(0, 0, true), 1);
    }

    /** "is of a PATCH": also if it is not laid, and has none. */
    private static void notOfAPatch() {
        check.due("P20 one is done", Yards.running().ofPatch(0, 3), 1);
        check.badState("P4 of a patch that is done", Yards::running, x -> x.refer(6, 0, false));
        check.due("P20 one waits", Yards.running().ofPatch(1, 3), 0);
        check.badState("P4 of a patch that waits", Yards::running, x -> x.refer(7, 0, false));
        check.due("P20 one has failed", Yards.failed().ofPatch(1, 3), 2);
        check.badState("P4 of a patch that failed", Yards::failed, x -> x.refer(10, 0, false));
        check.outside("P4 symbol before that", Yards::failed, x -> x.refer(10, 16, false));
    }

    private static LinkfactoryYard failedAndLinked() {
        LinkfactoryYard x = Yards.failed();
        x.link();
        return x;
    }

    private static void notOfAPatchThatIsGone() {
        check.due("P12 it is gone", failedAndLinked().many(7), 0);
        check.due("P9 its piece keeps its number", failedAndLinked().ofPiece(10, 1), 2);
        check.badState("P4 of a patch that is gone", () -> failedAndLinked(), x -> x.refer(10, 0, true));
    }

    /** "is laid in the IMAGE". */
    private static void notLaid() {
        check.due("P4 without an image", Yards.written().refer(1, 0, true), 2);
        check.badState("P4 laid", Yards::linked, x -> x.refer(1, 0, true));
        check.due("P9 without references", Yards.linked().ofPiece(3, 4), 0);
        check.badState("P4 laid, weak, and without references", Yards::linked, x -> x.refer(3, 0, false));
        check.badState("P4 laid, of an archived one", Yards::linked, x -> x.refer(4, 0, false));
        check.outside("P4 symbol before laid", Yards::linked, x -> x.refer(1, 16, true));
        check.due("P9 not at the first word", Yards.linked().ofPiece(0, 5), 0);
        check.badState("P4 laid at the first word", () -> laidWithoutReferences(), x -> x.refer(0, 0, false));
    }

    private static LinkfactoryYard laidWithoutReferences() {
        LinkfactoryYard x = withPieces(1);
        x.link();
        return x;
    }

    private static void laidIsWhatCounts() {
        check.due("P4 archived, and not in", Yards.linked().refer(5, 0, true), 1);
        check.due("P4 newer than the image", Yards.faulty().refer(6, 0, true), 2);
        LinkfactoryYard x = Yards.running();
        check.due("P9 it was replaced", x.ofPiece(1, 5), NONE);
        check.due("P4 so it is not laid any more", x.refer(1, 0, true), 2);
        check.due("P4 nor then", x.refer(1, 0, true), 3);
        check.badState("P4 but three it has", () -> withThreeOfTheReplaced(), y -> y.refer(1, 0, true));
    }

    private static LinkfactoryYard withThreeOfTheReplaced() {
        LinkfactoryYard x = Yards.running();
        x.refer(1, 0, true);
        x.refer(1, 0, true);
        return x;
    }

    /** "There is a REACH, 5 to 100 (40, at first)", "Returns the one before". */
    private static void reachIsFiveToHundred() {
        LinkfactoryYard x = new LinkfactoryYard();
        check.due("P5 at first", x.reach(5), 40);
        check.due("P5 5", x.reach(6), 5);
        check.due("P5 6", x.reach(99), 6);
        check.due("P5 99", x.reach(100), 99);
        check.due("P5 100", x.reach(100), 100);
        check.due("P5 the same again", x.reach(40), 100);
        check.badArgument("P5 4", Yards::fresh, y -> y.reach(4));
        check.badArgument("P5 101", Yards::fresh, y -> y.reach(101));
        check.badArgument("P5 4 beside runs", Yards::running, y -> y.reach(4));
        check.badArgument("P5 101 beside runs", Yards::running, y -> y.reach(101));
    }

    /** "(an IMAGE that there is keeps that with which it was linked)". */
    private static void theImageKeepsItsReach() {
        for (int reach : new int[] {5, 100}) {
            LinkfactoryYard x = Yards.linked();
            check.due("P5 with which it was linked", x.reach(reach), 12);
            check.due("P10 in reach of 12", x.steps(1, 0), 1);
            check.due("P10 out of reach of 12", x.steps(0, 2), 2);
            x.patch(2, 7, 0, NONE);
            check.due("P8 a jump, as 24 words are more than 12", x.ofSymbol(2, 2), 13);
            x.patch(0, 5, 0, NONE);
            check.due("P8 behind that", x.ofSymbol(0, 1), 14);
            check.due("P8 no jump, as 8 words are no more than 12", x.ofSymbol(0, 2), NONE);
        }
    }

    /** "An object is used for at most 512 calls". */
    private static void the512thCall() {
        LinkfactoryYard x = new LinkfactoryYard();
        for (int call = 1; call <= 512; call++) {
            int reach = 5 + call % 96;
            int before = call == 1 ? 40 : 5 + (call - 1) % 96;
            check.due("P5 call " + call, x.reach(reach), before);
        }
    }
}
