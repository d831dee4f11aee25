/** "2. Linking" and promises 6 to 12, sentence by sentence: what just is so, and what just is not. */
public final class LinkingEdgesTest {
    private static final int NONE = -1;
    private static final Check check = new Check("LinkingEdgesTest");

    public static void main(String[] args) {
        nothingIsLinked();
        onlyArchivedOnes();
        objectsWithoutPieces();
        aChainOfSevenArchives();
        theFirstThatIsNeededEachTime();
        theFirstThatIsNeededAnew();
        noArchiveNeedsItself();
        aWeakOneIsEnough();
        strongOnesThatComeLater();
        wordsWithoutASymbol();
        nearForwards();
        nearBackwards();
        islandsJustInReach();
        islandsAreShared();
        eachLinkingBeginsWithoutIslands();
        mostIslands();
        twoStrongOnes();
        missingSymbols();
        nothingIsLaidWithThem();
        eachSymbolOnceByTheirOrder();
        mostFaults();
        twoHundredWords();
        twoHundredWordsWithIslands();
        whatIsBehindTheLastIsFree();
        runsThatAreOver();
        withFaultsAllStays();
        withoutFaultsPatchesAreGone();
        faultsByNumbers();
        faultsAreThoseOfNow();
        symbolsByNumbers();
        piecesByNumbers();
        whatIsNotLaid();
        referencesByNumbers();
        wordsByNumbers();
        manyOfNoneAndOfAll();
        check.end();
    }

    private static LinkfactoryYard objects(int plain, int archived) {
        LinkfactoryYard x = new LinkfactoryYard();
        for (int i = 0; i < plain + archived; i++) {
            x.object(i >= plain);
        }
        return x;
    }

    /** One plain object with a piece for each size: the first for symbol 0, the next for 1 ... */
    private static LinkfactoryYard sizes(int... sizes) {
        LinkfactoryYard x = objects(1, 0);
        for (int i = 0; i < sizes.length; i++) {
            x.piece(0, i, sizes[i], false);
        }
        return x;
    }

    private static void dueFaults(String what, LinkfactoryYard x, int[]... due) {
        check.due(what + ", how many", x.link(), due.length);
        for (int k = 0; k < due.length; k++) {
            check.due(what + ", code of " + k, x.fault(k, 0), due[k][0]);
            check.due(what + ", symbol of " + k, x.fault(k, 1), due[k][1]);
        }
        check.outside(what + ", no more", () -> x.fault(due.length, 0));
    }

    // ---- objects that are in

    /** "Without FAULTS there is a new IMAGE": also one in which nothing is laid. */
    private static void nothingIsLinked() {
        LinkfactoryYard x = new LinkfactoryYard();
        check.due("P6 nothing at all", x.link(), 0);
        check.due("P12 there is an image", x.many(9), 1);
        for (int what = 0; what <= 8; what++) {
            check.due("P12 many(" + what + ")", x.many(what), 0);
        }
        check.due("P11 the first is free", x.map(0, 0), 0);
        check.due("P11 the last is free", x.map(199, 1), NONE);
        check.due("P24 all are free", x.place(200), 0);
        check.due("P6 again", x.link(), 0);
        check.badState("P13 nothing stands", () -> emptyImage(), y -> y.run(0));
        check.badState("P18 nothing stands", () -> emptyImage(), y -> y.patch(0, 1, 0, NONE));
        check.outside("P7 no fault", () -> emptyImage(), y -> y.fault(0, 0));
    }

    private static LinkfactoryYard emptyImage() {
        LinkfactoryYard x = new LinkfactoryYard();
        x.link();
        return x;
    }

    /** "First all PLAIN OBJECTS are IN": without one none is, and what the others have is no fault. */
    private static void onlyArchivedOnes() {
        LinkfactoryYard x = objects(0, 2);
        x.piece(0, 0, 5, false);
        x.piece(1, 0, 5, false);
        x.refer(0, 1, true);
        x.refer(1, 0, true);
        check.due("P6 no faults", x.link(), 0);
        check.due("P12 an image", x.many(9), 1);
        check.due("P12 none is in", x.many(2), 0);
        check.due("P12 no words", x.many(3), 0);
        check.due("P9 not laid", x.ofPiece(0, 5), NONE);
    }

    private static void objectsWithoutPieces() {
        LinkfactoryYard x = objects(8, 0);
        check.due("P6 no faults", x.link(), 0);
        check.due("P12 all are in", x.many(2), 8);
        check.due("P12 no words", x.many(3), 0);
        x.piece(7, 15, 20, false);
        check.due("P12 that stays", x.many(3), 0);
        x.link();
        check.due("P8 the first that is laid", x.ofSymbol(15, 1), 0);
        LinkfactoryYard y = objects(1, 1);
        y.link();
        check.due("P12 an archived one without pieces is not in", y.many(2), 1);
    }

    /** Object 0 refers to what 7 has, that to what 6 has ...: each is "IN, behind the others". */
    private static void aChainOfSevenArchives() {
        LinkfactoryYard x = objects(1, 7);
        for (int object = 0; object < 8; object++) {
            x.piece(object, object, object + 1, object % 2 == 1);
            x.refer(object, object == 0 ? 7 : object - 1, false);
        }
        check.due("P6 no faults", x.link(), 0);
        check.due("P12 all are in", x.many(2), 8);
        int place = 1;
        check.due("P9 the plain one is the first", x.ofPiece(0, 5), 0);
        for (int object = 7; object > 0; object--) {
            check.due("P9 then object " + object, x.ofPiece(object, 5), place);
            place += object + 1;
        }
        check.due("P23 without the last of the chain", x.faultsWithout(1), 1);
        check.due("P23 without the first of the chain", x.faultsWithout(7), 1);
        check.due("P23 without the plain one nobody needs them", x.faultsWithout(0), 0);
    }

    /** "the first ARCHIVED one": 1 before 2, although 2 is needed too; and 0, that is needed since 2 is in. */
    private static void theFirstThatIsNeededEachTime() {
        LinkfactoryYard x = new LinkfactoryYard();
        for (int object = 0; object < 4; object++) {
            x.object(object < 3);
        }
        x.piece(3, 9, 1, false);
        x.piece(2, 2, 2, false);
        x.piece(1, 1, 3, false);
        x.piece(0, 0, 4, false);
        x.refer(0, 2, false);
        x.refer(0, 1, false);
        x.refer(1, 0, false);
        check.due("P6 no faults", x.link(), 0);
        int[] places = {0, 4, 1, 6};
        for (int piece = 0; piece < 4; piece++) {
            check.due("P9 place of " + piece, x.ofPiece(piece, 5), places[piece]);
        }
    }

    /** 1 is in for the plain one; 0, that it refers to, comes before 2, that was needed already. */
    private static void theFirstThatIsNeededAnew() {
        LinkfactoryYard x = new LinkfactoryYard();
        for (int object = 0; object < 4; object++) {
            x.object(object < 3);
            x.piece(object, object, object + 1, false);
        }
        x.refer(3, 1, false);
        x.refer(3, 2, false);
        x.refer(1, 0, false);
        check.due("P6 no faults", x.link(), 0);
        int[] places = {6, 4, 7, 0};
        for (int piece = 0; piece < 4; piece++) {
            check.due("P9 place of " + piece, x.ofPiece(piece, 5), places[piece]);
        }
    }

    /** "that a PIECE of an OBJECT that is IN refers to": not one of itself. */
    private static void noArchiveNeedsItself() {
        LinkfactoryYard x = objects(1, 2);
        x.piece(0, 0, 1, false);
        x.piece(1, 5, 1, false);
        x.refer(1, 5, true);
        x.piece(2, 6, 1, false);
        x.refer(2, 5, true);
        check.due("P6 no faults", x.link(), 0);
        check.due("P12 only the plain one", x.many(2), 1);
        x.object(false);
        x.piece(3, 7, 1, false);
        x.refer(3, 6, true);
        check.due("P6 no faults now", x.link(), 0);
        check.due("P12 now all", x.many(2), 4);
    }

    /** "and that no PIECE of an OBJECT that is IN has": neither a strong one nor a weak one. */
    private static void aWeakOneIsEnough() {
        for (boolean isWeak : new boolean[] {false, true}) {
            LinkfactoryYard x = objects(2, 1);
            x.piece(0, 0, 1, false);
            x.refer(0, 5, false);
            x.piece(2, 5, 1, false);
            x.link();
            check.due("P12 it is needed", x.many(2), 3);
            x.piece(1, 5, 1, isWeak);
            check.due("P6 no faults", x.link(), 0);
            check.due("P12 it is not needed any more", x.many(2), 2);
            check.due("P8 that of the plain one", x.ofSymbol(5, 0), 2);
            check.due("P9 that of the archive is not laid any more", x.ofPiece(1, 5), NONE);
            check.due("P11 so its word is of the other one", x.map(1, 1), 2);
        }
    }

    /** "the first STRONG PIECE with it", "or, without one, for the first WEAK one", in the order of the objects. */
    private static void strongOnesThatComeLater() {
        LinkfactoryYard x = new LinkfactoryYard();
        x.object(true);
        x.object(false);
        x.piece(0, 0, 2, true);
        x.piece(0, 1, 2, false);
        x.piece(1, 0, 2, true);
        x.piece(1, 2, 2, false);
        x.refer(3, 1, false);
        x.piece(1, 0, 2, true);
        x.link();
        check.due("P12 both are in", x.many(2), 2);
        check.due("P8 the weak one of the object that was in before", x.ofSymbol(0, 0), 2);
        x.piece(0, 0, 2, false);
        x.link();
        check.due("P8 the strong one, though it is the last", x.ofSymbol(0, 0), 5);
        check.due("P8 it is at", x.ofSymbol(0, 1), 10);
        check.due("P9 the weak ones are laid as well", x.ofPiece(2, 5), 0);
    }

    private static void wordsWithoutASymbol() {
        LinkfactoryYard x = sizes(20);
        check.due("P8 without an image", x.ofSymbol(0, 0), NONE);
        check.due("P8 nowhere", x.ofSymbol(0, 1), NONE);
        x.link();
        check.due("P8 it stands", x.ofSymbol(0, 0), 0);
        check.due("P8 at the first word", x.ofSymbol(0, 1), 0);
        for (int symbol = 1; symbol <= 15; symbol++) {
            for (int what = 0; what <= 2; what++) {
                check.due("P8 symbol " + symbol + ", " + what, x.ofSymbol(symbol, what), NONE);
            }
            check.due("P8 none waits for " + symbol, x.ofSymbol(symbol, 3), 0);
        }
        check.due("P11 the last of 20", x.map(19, 1), 0);
        check.due("P11 free behind it", x.map(20, 0), 0);
    }

    // ---- reach and islands

    /** "differ, either way, by no more than REACH". */
    private static void nearForwards() {
        int[][] withDistances = {{5, 5}, {20, 20}};
        for (int[] one : withDistances) {
            LinkfactoryYard x = sizes(one[1], 1);
            x.refer(0, 1, true);
            dueForwards(x, one[0]);
        }
        LinkfactoryYard x = sizes(20, 20, 20, 20, 20, 1);
        x.refer(0, 5, true);
        dueForwards(x, 100);
        LinkfactoryYard y = sizes(20, 20, 20, 20, 20, 1, 1);
        y.refer(0, 6, true);
        check.due("P22 101 words are more than 100", y.islandsWith(100), 1);
    }

    /** The reference of piece 0 is exactly in reach. */
    private static void dueForwards(LinkfactoryYard x, int reach) {
        check.due("P22 in reach of " + reach, x.islandsWith(reach), 0);
        if (reach > 5) {
            check.due("P22 not in reach of one less than " + reach, x.islandsWith(reach - 1), 1);
        }
        x.reach(reach);
        check.due("P6 links with " + reach, x.link(), 0);
        check.due("P12 no island", x.many(4), 0);
        check.due("P10 one step", x.steps(0, 0), 1);
    }

    private static void nearBackwards() {
        LinkfactoryYard x = sizes(5, 1);
        x.refer(1, 0, true);
        x.reach(5);
        check.due("P6 5 words back", x.link(), 0);
        check.due("P12 no island", x.many(4), 0);
        check.due("P10 one step", x.steps(1, 0), 1);
        LinkfactoryYard y = sizes(6, 1);
        y.refer(1, 0, true);
        y.reach(5);
        check.due("P6 6 words back", y.link(), 0);
        check.due("P12 an island", y.many(4), 1);
        check.due("P10 two steps", y.steps(1, 0), 2);
        check.due("P11 behind the piece", y.map(7, 0), 2);
        LinkfactoryYard z = sizes(20, 20, 20, 20, 20, 1, 1);
        z.refer(5, 0, true);
        check.due("P22 100 words back", z.islandsWith(100), 0);
        z.refer(6, 0, true);
        check.due("P22 101 words back", z.islandsWith(100), 1);
    }

    /** Piece 0 has an island behind its object: just in reach, or one word too far. */
    private static void islandsJustInReach() {
        for (int reach : new int[] {5, 10, 20}) {
            LinkfactoryYard x = islandBehind(reach);
            x.reach(reach);
            check.due("P6 the island is in reach of " + reach, x.link(), 0);
            check.due("P12 there it is", x.map(reach, 0), 2);
            check.due("P10 by the island", x.steps(0, 0), 2);
            if (reach < 20) {
                LinkfactoryYard y = islandBehind(reach + 1);
                y.reach(reach);
                dueFaults("P6 the island is out of reach of " + reach, y, new int[] {3, 15});
                check.due("P22 there would be an island all the same", y.islandsWith(reach), 1);
                check.due("P12 no image", y.many(9), 0);
            }
        }
        LinkfactoryYard x = islandAfterHundred(20);
        x.reach(100);
        check.due("P6 the island is in reach of 100", x.link(), 0);
        check.due("P11 there it is", x.map(100, 1), 15);
        LinkfactoryYard y = islandAfterHundred(19);
        y.reach(100);
        check.due("P6 a word before that too", y.link(), 0);
        LinkfactoryYard z = islandAfterHundred(20);
        z.piece(0, 5, 1, false);
        z.reach(100);
        dueFaults("P6 a word behind that it is not", z, new int[] {3, 15});
    }

    private static LinkfactoryYard islandBehind(int words) {
        LinkfactoryYard x = objects(3, 0);
        x.piece(0, 0, words, false);
        x.piece(1, 1, 20, false);
        x.piece(2, 15, 1, false);
        x.refer(0, 15, true);
        return x;
    }

    private static LinkfactoryYard islandAfterHundred(int last) {
        LinkfactoryYard x = objects(2, 0);
        int[] sizes = {20, 20, 20, 20, last};
        for (int i = 0; i < 5; i++) {
            x.piece(0, i, sizes[i], false);
        }
        x.piece(1, 14, 20, false);
        x.piece(1, 15, 1, false);
        x.refer(0, 15, true);
        return x;
    }

    /** "whose OBJECT has no ISLAND for that SYMBOL": one for all of an object, but one for each object. */
    private static void islandsAreShared() {
        LinkfactoryYard x = objects(3, 0);
        x.piece(0, 0, 2, false);
        x.piece(0, 1, 2, false);
        x.piece(1, 2, 4, false);
        x.piece(2, 3, 20, false);
        x.piece(2, 4, 1, false);
        for (int piece = 0; piece < 3; piece++) {
            x.refer(piece, 4, true);
            x.refer(piece, 4, true);
        }
        x.reach(6);
        check.due("P6 links", x.link(), 0);
        check.due("P12 two islands", x.many(4), 2);
        check.due("P11 the first object's", x.map(4, 0), 2);
        check.due("P9 the next object behind it", x.ofPiece(2, 5), 5);
        check.due("P11 the second object's", x.map(9, 0), 2);
        for (int piece = 0; piece < 3; piece++) {
            check.due("P10 by the island, " + piece, x.steps(piece, 0), 2);
            check.due("P10 by the same one, " + piece, x.steps(piece, 1), 2);
        }
    }

    /** "each linking begins without any". */
    private static void eachLinkingBeginsWithoutIslands() {
        LinkfactoryYard x = sizes(6, 1);
        x.refer(1, 0, true);
        x.reach(5);
        x.link();
        check.due("P12 one island", x.many(4), 1);
        x.link();
        check.due("P12 not two", x.many(4), 1);
        check.due("P12 8 words", x.many(3), 8);
        x.reach(6);
        x.link();
        check.due("P12 none", x.many(4), 0);
        check.due("P12 7 words", x.many(3), 7);
        check.due("P11 free where it was", x.map(7, 0), 0);
    }

    /** 40 pieces with 3 near references each: no two of an object are for the same symbol. */
    private static LinkfactoryYard crowded() {
        LinkfactoryYard x = objects(8, 0);
        for (int piece = 0; piece < 40; piece++) {
            int object = piece / 5;
            x.piece(object, piece < 16 ? piece : 15, 20, piece >= 16);
            for (int k = 0; k < 3; k++) {
                x.refer(piece, (3 * (piece % 5) + k + 5 * (object + 1)) % 16, true);
            }
        }
        return x;
    }

    private static void mostIslands() {
        LinkfactoryYard x = crowded();
        check.due("P22 all that there can be", x.islandsWith(5), 120);
        check.due("P22 with the largest reach fewer", x.islandsWith(100) < 120, true);
        x.reach(5);
        check.due("P6 all symbols are out of reach, and there are too many words", x.link(), 17);
        for (int k = 0; k < 16; k++) {
            check.due("P7 code of " + k, x.fault(k, 0), 3);
            check.due("P7 symbol of " + k, x.fault(k, 1), k);
        }
        check.due("P7 code of the last", x.fault(16, 0), 4);
        check.due("P7 symbol of the last", x.fault(16, 1), NONE);
        check.outside("P7 no 18th", () -> x.fault(17, 0));
        check.due("P12 no image", x.many(9), 0);
    }

    // ---- faults

    /** "a SYMBOL that two or more STRONG PIECES have, of OBJECTS that are IN". */
    private static void twoStrongOnes() {
        LinkfactoryYard x = objects(2, 1);
        x.piece(0, 0, 1, false);
        x.piece(0, 0, 1, true);
        x.piece(1, 0, 1, true);
        x.piece(2, 0, 1, false);
        check.due("P6 one strong one is no fault", x.link(), 0);
        x.piece(0, 15, 1, true);
        x.piece(1, 15, 1, true);
        check.due("P6 two weak ones are no fault", x.link(), 0);
        x.piece(1, 0, 1, false);
        dueFaults("P6 two strong ones of two objects", x, new int[] {1, 0});
        x.piece(0, 0, 1, false);
        dueFaults("P6 three strong ones", x, new int[] {1, 0});
        x.piece(1, 15, 1, false);
        dueFaults("P6 one and two weak ones", x, new int[] {1, 0});
        x.piece(1, 15, 1, false);
        dueFaults("P6 two strong ones of an object", x, new int[] {1, 0}, new int[] {1, 15});
    }

    /** "a SYMBOL that a PIECE of such an OBJECT refers to, and that STANDS for nothing". */
    private static void missingSymbols() {
        LinkfactoryYard x = objects(1, 1);
        x.piece(0, 1, 1, false);
        x.piece(1, 2, 1, false);
        x.refer(1, 9, true);
        check.due("P6 what one refers to that is not in is no fault", x.link(), 0);
        LinkfactoryYard y = objects(1, 1);
        y.piece(0, 1, 1, true);
        y.piece(0, 1, 1, false);
        y.refer(0, 15, false);
        dueFaults("P6 a far one of a weak piece, that does not stand", y, new int[] {2, 15});
        y.refer(1, 0, true);
        y.refer(1, 15, true);
        dueFaults("P6 each once, by symbols", y, new int[] {2, 0}, new int[] {2, 15});
        y.piece(1, 15, 1, true);
        dueFaults("P6 a weak one of an archive is enough", y, new int[] {2, 0});
        y.piece(0, 0, 1, true);
        check.due("P6 a weak one is enough", y.link(), 0);
    }

    /** "with one of these nothing is laid; otherwise 3 ..., 4 ...". */
    private static void nothingIsLaidWithThem() {
        LinkfactoryYard x = tooLongAndTooFar();
        dueFaults("P6 without 1 and 2", x, new int[] {3, 10}, new int[] {4, NONE});
        check.due("P22 an island", x.islandsWith(5), 1);
        LinkfactoryYard y = tooLongAndTooFar();
        y.piece(0, 0, 1, false);
        dueFaults("P6 with 1", y, new int[] {1, 0});
        check.due("P22 no island", y.islandsWith(5), 0);
        LinkfactoryYard z = tooLongAndTooFar();
        z.refer(1, 15, true);
        dueFaults("P6 with 2", z, new int[] {2, 15});
        check.due("P22 no island with 2", z.islandsWith(5), 0);
    }

    private static LinkfactoryYard tooLongAndTooFar() {
        LinkfactoryYard x = sizes(20, 20, 20, 20, 20, 20, 20, 20, 20, 20, 20);
        x.refer(0, 10, true);
        x.reach(5);
        return x;
    }

    /** "by SYMBOLS, each once": not in the order of the pieces, and not once for each reference. */
    private static void eachSymbolOnceByTheirOrder() {
        LinkfactoryYard x = sizes(20, 20, 20, 20);
        x.refer(0, 3, true);
        x.refer(0, 3, true);
        x.refer(0, 2, true);
        x.refer(1, 3, true);
        x.refer(1, 1, true);
        x.refer(2, 1, true);
        x.reach(19);
        dueFaults("P6 three symbols", x, new int[] {3, 1}, new int[] {3, 2}, new int[] {3, 3});
        LinkfactoryYard y = objects(1, 0);
        for (int i = 0; i < 4; i++) {
            int symbol = new int[] {8, 3, 8, 3}[i];
            y.piece(0, symbol, 1, false);
            y.refer(i, 15 - symbol, false);
        }
        dueFaults("P6 first 1, then 2", y, new int[] {1, 3}, new int[] {1, 8}, new int[] {2, 7}, new int[] {2, 12});
    }

    private static void mostFaults() {
        LinkfactoryYard x = objects(2, 0);
        for (int piece = 0; piece < 32; piece++) {
            x.piece(piece / 16, 15 - piece % 16, 20, false);
            x.refer(piece, piece % 16, true);
        }
        check.due("P6 each symbol twice", x.link(), 16);
        for (int k = 0; k < 16; k++) {
            check.due("P7 code of " + k, x.fault(k, 0), 1);
            check.due("P7 symbol of " + k, x.fault(k, 1), k);
        }
        check.outside("P7 no 17th", () -> x.fault(16, 0));
        LinkfactoryYard y = objects(1, 0);
        for (int piece = 0; piece < 5; piece++) {
            y.piece(0, 7, 1, piece > 1);
            for (int k = 0; k < 3; k++) {
                y.refer(piece, (8 + 3 * piece + k) % 16, k == 0);
            }
        }
        check.due("P6 one twice, and all others missing", y.link(), 16);
        for (int k = 0; k < 16; k++) {
            int symbol = k == 0 ? 7 : k <= 7 ? k - 1 : k;
            check.due("P7 code of " + k, y.fault(k, 0), k == 0 ? 1 : 2);
            check.due("P7 symbol of " + k, y.fault(k, 1), symbol);
        }
        check.outside("P7 no 17th either", () -> y.fault(16, 0));
    }

    /** "if there are more than 200 WORDS". */
    private static void twoHundredWords() {
        int[] nearly = {20, 20, 20, 20, 20, 20, 20, 20, 20, 19};
        LinkfactoryYard x = sizes(nearly);
        check.due("P6 199 words", x.link(), 0);
        check.due("P12 199", x.many(3), 199);
        check.due("P11 the last word is free", x.map(199, 0), 0);
        check.due("P24 there", x.place(1), 199);
        x.piece(0, 10, 1, false);
        check.due("P6 200 words", x.link(), 0);
        check.due("P12 200", x.many(3), 200);
        check.due("P11 the last word is not free", x.map(199, 1), 10);
        check.due("P24 none is free", x.place(1), NONE);
        x.piece(0, 11, 1, true);
        dueFaults("P6 201 words", x, new int[] {4, NONE});
        check.due("P12 the image stays", x.many(3), 200);
        check.due("P9 the last one is not laid", x.ofPiece(11, 5), NONE);
    }

    private static void twoHundredWordsWithIslands() {
        LinkfactoryYard x = Yards.fullAndLinked();
        check.due("P12 192 words of pieces, and 8 islands", x.many(3), 200);
        check.due("P12 8 islands", x.many(4), 8);
        for (int object = 0; object < 8; object++) {
            check.due("P11 the island of " + object, x.map(25 * object + 24, 0), 2);
        }
        check.due("P11 for symbol 12", x.map(24, 1), 12);
        check.due("P11 for symbol 15", x.map(49, 1), 15);
        check.due("P11 the last one, for symbol 0", x.map(199, 1), 0);
        x.piece(6, 0, 1, true);
        dueFaults("P6 201 words", x, new int[] {4, NONE});
        LinkfactoryYard y = sizes(20, 20, 20, 20, 20, 20, 20, 20, 20, 19);
        y.refer(9, 0, true);
        check.due("P6 199 words and an island", y.link(), 0);
        check.due("P11 it is the last word", y.map(199, 0), 2);
        LinkfactoryYard z = sizes(20, 20, 20, 20, 20, 20, 20, 20, 20, 20);
        z.refer(9, 0, true);
        dueFaults("P6 200 words and an island", z, new int[] {4, NONE});
        check.due("P22 one island all the same", z.islandsWith(40), 1);
    }

    /** "of which those behind the last one that is laid are FREE": also what was not free in the image before. */
    private static void whatIsBehindTheLastIsFree() {
        LinkfactoryYard x = Yards.fullAndLinked();
        check.due("P11 an island in the last word", x.map(199, 0), 2);
        x.reach(100);
        check.due("P6 links", x.link(), 0);
        check.due("P12 fewer islands", x.many(4), 5);
        check.due("P11 the last word is free", x.map(199, 0), 0);
        check.due("P11 for nothing", x.map(199, 1), NONE);
        check.due("P24 three words", x.place(3), 197);
        LinkfactoryYard y = sizes(20, 20, 20, 20, 20, 20, 20, 20, 20, 19);
        y.link();
        y.patch(0, 1, 0, NONE);
        check.due("P11 a patch in the last word", y.map(199, 1), 10);
        y.link();
        check.due("P11 it is free again", y.map(199, 0), 0);
        check.due("P24 it alone", y.place(1), 199);
    }

    // ---- linking again

    /** "if there is a RUN". */
    private static void runsThatAreOver() {
        check.badState("P6 one run", () -> linkedAndRun(1), x -> x.link());
        check.badState("P6 four runs", () -> linkedAndRun(4), x -> x.link());
        check.badState("P6 a run, and a fault", () -> linkedAndRunWithFault(), x -> x.link());
        LinkfactoryYard x = linkedAndRun(2);
        x.back(0);
        check.badState("P6 one is left", () -> x.link());
        x.back(1);
        check.due("P6 none is left", x.link(), 0);
    }

    private static LinkfactoryYard linkedAndRun(int runs) {
        LinkfactoryYard x = Yards.linked();
        for (int i = 0; i < runs; i++) {
            x.run(0);
        }
        return x;
    }

    private static LinkfactoryYard linkedAndRunWithFault() {
        LinkfactoryYard x = linkedAndRun(1);
        x.piece(0, 0, 1, false);
        return x;
    }

    /** A patch that is done, one that waits for room, a group of two that waits till the next link, gates, and a jump. */
    private static LinkfactoryYard withPatches() {
        LinkfactoryYard x = Yards.tight();
        x.run(5);
        x.patch(0, 15, 0, 3);
        x.patch(4, 20, 0, NONE);
        x.patch(5, 5, 2, NONE);
        x.patch(5, 5, 2, NONE);
        x.back(0);
        x.gate(5, true);
        x.gate(6, true);
        return x;
    }

    private static LinkfactoryYard withPatchesAndAFault() {
        LinkfactoryYard x = withPatches();
        x.piece(0, 5, 1, false);
        return x;
    }

    /** "With FAULTS all stays". */
    private static void withFaultsAllStays() {
        LinkfactoryYard x = withPatchesAndAFault();
        check.due("P12 a jump", x.many(5), 1);
        check.due("P12 three wait", x.many(8), 3);
        check.due("P6 a fault", x.link(), 1);
        check.dueText("P6 all stays", Yards.shown(x), Yards.shown(withPatchesAndAFault()));
        check.due("P12 four patches", x.many(7), 4);
        check.badState("P13 the gate holds still", () -> x.run(5));
        check.due("P13 the other does not", x.run(6), 0);
        LinkfactoryYard y = Yards.written();
        y.piece(0, 0, 1, false);
        check.due("P6 a fault without an image", y.link(), 1);
        check.due("P12 there is none then", y.many(9), 0);
        check.badState("P13 so nothing can run", () -> y.run(1));
    }

    /** "there are no PATCHES any more, as if there had been none ..; GATES stay". */
    private static void withoutFaultsPatchesAreGone() {
        LinkfactoryYard x = withPatches();
        check.due("P6 no fault", x.link(), 0);
        int[] many = {1, 13, 1, 180, 0, 0, 0, 0, 0, 1};
        for (int what = 0; what <= 9; what++) {
            check.due("P12 many(" + what + ")", x.many(what), many[what]);
        }
        for (int patch = 0; patch < 4; patch++) {
            int number = patch;
            check.outside("P20 no patch " + patch, () -> x.ofPatch(number, 0));
            check.outside("P21 no patch " + patch, () -> x.backsFor(number));
            check.due("P9 its piece is not laid", x.ofPiece(9 + patch, 5), NONE);
            check.due("P9 its piece has its symbol", x.ofPiece(9 + patch, 1), new int[] {0, 4, 5, 5}[patch]);
        }
        check.due("P8 the object's piece stands", x.ofSymbol(0, 0), 0);
        check.due("P8 no jump", x.ofSymbol(0, 2), NONE);
        check.due("P13 the gate does not hold", x.run(5), 0);
        check.due("P18 the next one is the first", x.patch(5, 5, 2, NONE), 0);
        check.due("P20 it waits", x.ofPatch(0, 3), 0);
        check.badState("P13 the gate has stayed", () -> x.run(5));
        for (int patch = 1; patch < 8; patch++) {
            check.due("P18 eight of this image", x.patch(5, 1, 0, NONE), patch);
        }
        check.badState("P18 no ninth", () -> x.patch(5, 1, 0, NONE));
    }

    // ---- by numbers

    /** "if there is no such one", "if what is not 0 to 1". */
    private static void faultsByNumbers() {
        check.due("P7 the last one", Yards.faulty().fault(1, 0), 2);
        check.due("P7 its symbol", Yards.faulty().fault(1, 1), 12);
        check.outside("P7 behind the last", Yards::faulty, x -> x.fault(2, 0));
        check.outside("P7 before the first", Yards::faulty, x -> x.fault(-1, 0));
        check.badArgument("P7 what 2", Yards::faulty, x -> x.fault(1, 2));
        check.badArgument("P7 what -1", Yards::faulty, x -> x.fault(0, -1));
        check.outside("P7 the fault before what", Yards::faulty, x -> x.fault(2, 2));
        check.outside("P7 no faults", Yards::linked, x -> x.fault(0, 0));
        check.outside("P7 no faults, before what", Yards::linked, x -> x.fault(0, 2));
    }

    /** "that link() would have now": also while a run is there, and with the reach of now. */
    private static void faultsAreThoseOfNow() {
        LinkfactoryYard x = Yards.running();
        check.badState("P6 there is a run", () -> x.link());
        check.due("P7 with reach 7", x.fault(0, 0), 3);
        check.due("P7 its symbol", x.fault(0, 1), 0);
        x.reach(12);
        check.outside("P7 with reach 12", () -> x.fault(0, 0));
    }

    /** "if what is not 0 to 3". */
    private static void symbolsByNumbers() {
        LinkfactoryYard x = Yards.running();
        int[] due = {6, 28, 4, 1};
        for (int what = 0; what <= 3; what++) {
            check.due("P8 what " + what, x.ofSymbol(1, what), due[what]);
            check.due("P8 of the last symbol, what " + what, x.ofSymbol(15, what), what == 3 ? 0 : NONE);
        }
        check.badArgument("P8 what 4", Yards::running, y -> y.ofSymbol(1, 4));
        check.badArgument("P8 what -1", Yards::running, y -> y.ofSymbol(1, -1));
        check.outside("P8 symbol 16", Yards::running, y -> y.ofSymbol(16, 0));
        check.outside("P8 symbol -1", Yards::running, y -> y.ofSymbol(-1, 0));
    }

    /** "if there is no such PIECE", "if what is not 0 to 6". */
    private static void piecesByNumbers() {
        LinkfactoryYard x = Yards.running();
        int[][] due = {{0, 0, 4, 1, 3, 0, 2}, {0, 1, 8, 1, 1, NONE, 0}, {1, 2, 2, 0, 0, 19, 0},
            {3, 9, 1, 1, 0, NONE, 0}, {NONE, 1, 20, 1, 1, 28, 2}, {NONE, 1, 7, 1, 1, NONE, 0}};
        int[] pieces = {0, 1, 3, 5, 6, 9};
        for (int i = 0; i < pieces.length; i++) {
            for (int what = 0; what <= 6; what++) {
                check.due("P9 piece " + pieces[i] + ", what " + what, x.ofPiece(pieces[i], what), due[i][what]);
            }
        }
        check.outside("P9 behind the last", Yards::running, y -> y.ofPiece(10, 0));
        check.outside("P9 before the first", Yards::running, y -> y.ofPiece(-1, 0));
        check.badArgument("P9 what 7", Yards::running, y -> y.ofPiece(9, 7));
        check.badArgument("P9 what -1", Yards::running, y -> y.ofPiece(0, -1));
        check.outside("P9 the piece before what", Yards::running, y -> y.ofPiece(10, 7));
        check.due("P9 all four runs have it", Yards.full().ofPiece(0, 6), 4);
        check.due("P9 none has it", Yards.full().ofPiece(1, 6), 0);
    }

    /** "if .. it is not laid": each way not to be laid. */
    private static void whatIsNotLaid() {
        check.outside("P10 without an image", Yards::written, x -> x.steps(0, 0));
        check.outside("P10 of an object that is not in", () -> withReferenceOf(Yards.linked(), 5), x -> x.steps(5, 0));
        check.outside("P10 newer than the image", Yards::faulty, x -> x.steps(6, 0));
        check.outside("P10 replaced", Yards::running, x -> x.steps(1, 0));
        check.outside("P10 of a patch that waits", Yards::running, x -> x.steps(8, 0));
        check.due("P10 of a patch that is done", Yards.running().steps(6, 0), 1);
        LinkfactoryYard x = Yards.tight();
        x.patch(0, 1, 0, 8);
        check.due("P10 of a patch that is done", x.steps(9, 0), 1);
        x.link();
        check.outside("P10 of a patch that is gone", () -> x.steps(9, 0));
        check.due("P10 of an object's, that is laid again", x.steps(0, 0), 1);
    }

    private static LinkfactoryYard withReferenceOf(LinkfactoryYard x, int piece) {
        x.refer(piece, 0, true);
        return x;
    }

    /** "there is no such REFERENCE". */
    private static void referencesByNumbers() {
        LinkfactoryYard x = Yards.linked();
        int[] due = {1, 1, 2};
        for (int k = 0; k < 3; k++) {
            check.due("P10 of three, " + k, x.steps(0, k), due[k]);
        }
        check.due("P10 the only one", x.steps(1, 0), 1);
        check.outside("P10 behind three", Yards::linked, y -> y.steps(0, 3));
        check.outside("P10 behind the only one", Yards::linked, y -> y.steps(1, 1));
        check.outside("P10 of none", Yards::linked, y -> y.steps(3, 0));
        check.outside("P10 before the first", Yards::linked, y -> y.steps(0, -1));
        check.outside("P10 piece behind the last", Yards::linked, y -> y.steps(6, 0));
        check.outside("P10 piece before the first", Yards::linked, y -> y.steps(-1, 0));
    }

    /** "a WORD, 0 to 199", and each kind of it. */
    private static void wordsByNumbers() {
        LinkfactoryYard x = Yards.running();
        int[][] due = {{0, 1, 0}, {3, 1, 0}, {4, 3, 1}, {5, 0, NONE}, {11, 0, NONE}, {12, 2, 3}, {13, 1, 2}, {18, 1, 2},
            {19, 1, 3}, {20, 1, 3}, {21, 2, 0}, {22, 1, 4}, {26, 1, 4}, {27, 2, 0}, {28, 1, 6}, {47, 1, 6}, {48, 0, NONE},
            {199, 0, NONE}};
        for (int[] one : due) {
            check.due("P11 kind of " + one[0], x.map(one[0], 0), one[1]);
            check.due("P11 what is at " + one[0], x.map(one[0], 1), one[2]);
        }
        check.due("P11 the last word of a full one", Yards.full().map(199, 0), 2);
        for (int word : new int[] {-1, 200}) {
            check.outside("P11 word " + word, Yards::running, y -> y.map(word, 0));
            check.outside("P11 word before what, " + word, Yards::running, y -> y.map(word, 2));
        }
        for (int what : new int[] {-1, 2}) {
            check.badArgument("P11 what " + what, Yards::running, y -> y.map(0, what));
            check.badArgument("P11 what of the last, " + what, Yards::running, y -> y.map(199, what));
        }
        check.due("P11 free without an image", Yards.written().map(0, 0), 0);
        check.due("P11 nothing is there", Yards.written().map(0, 1), NONE);
    }

    /** "if what is not 0 to 9". */
    private static void manyOfNoneAndOfAll() {
        LinkfactoryYard none = Yards.fresh();
        LinkfactoryYard some = Yards.running();
        LinkfactoryYard all = Yards.full();
        int[] ofSome = {4, 10, 3, 41, 3, 1, 3, 4, 3, 1};
        int[] ofAll = {8, 40, 8, 200, 8, 0, 4, 8, 8, 1};
        for (int what = 0; what <= 9; what++) {
            check.due("P12 of none, " + what, none.many(what), 0);
            check.due("P12 of some, " + what, some.many(what), ofSome[what]);
            check.due("P12 of all, " + what, all.many(what), ofAll[what]);
        }
        check.badArgument("P12 what 10", Yards::full, x -> x.many(10));
        check.badArgument("P12 what -1", Yards::full, x -> x.many(-1));
    }
}
