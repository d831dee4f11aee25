/** "4. Patches" and promises 18 to 20, sentence by sentence: what just is so, and what just is not. */
public final class PatchEdgesTest {
    private static final int NONE = -1;
    private static final int WAITS = 0;
    private static final int DONE = 1;
    private static final int FAILED = 2;
    private static final Check check = new Check("PatchEdgesTest");

    public static void main(String[] args) {
        symbolsByNumbers();
        sizesByNumbers();
        groupsByNumbers();
        anImageIsNeeded();
        bothMustStandForSomething();
        atMostEightPatches();
        thoseThatFailedAreAmongTheEight();
        itsPiece();
        asManyFreeWordsAsItsSize();
        noFreeWordAtAll();
        freeWordsOneBehindTheOther();
        theSmallestWord();
        itsOwnWordsAreNotFreeBefore();
        nobodyAnywhereInAStack();
        nobodyInAnyRun();
        behindOneForTheSameSymbol();
        onlyTheSameSymbolCounts();
        asLongAsThereIsOne();
        theSmallestNumberFirst();
        jumpsForwards();
        jumpsBackwards();
        islandsThatAreTooFar();
        islandsThatAreReached();
        whoseReferencesCount();
        oneWordAndAJump();
        theWordOfAJumpIsNotFree();
        groupZeroIsNone();
        threeGroups();
        aGroupThatHasNoRoomYet();
        aGroupOfEight();
        aGroupThatJustFits();
        aGroupThatFails();
        gatesByNumbers();
        patchesByNumbers();
        check.end();
    }

    private static LinkfactoryYard sizes(int reach, int... sizes) {
        LinkfactoryYard x = new LinkfactoryYard();
        x.object(false);
        for (int i = 0; i < sizes.length; i++) {
            x.piece(0, i, sizes[i], false);
        }
        x.reach(reach);
        return x;
    }

    /** Nine pieces of 20 words for 0 to 8, and one for 9 that leaves so many words free behind it. */
    private static LinkfactoryYard roomFor(int free) {
        LinkfactoryYard x = sizes(40, 20, 20, 20, 20, 20, 20, 20, 20, 20);
        if (free < 20) {
            x.piece(0, 9, 20 - free, false);
        }
        x.link();
        return x;
    }

    private static void dueStates(String what, LinkfactoryYard x, int... states) {
        for (int patch = 0; patch < states.length; patch++) {
            check.due(what + ", state of " + patch, x.ofPatch(patch, 3), states[patch]);
        }
    }

    // ---- what may come

    /** "if there is no such SYMBOL (but NONE for to)". */
    private static void symbolsByNumbers() {
        LinkfactoryYard x = withAllSymbols();
        check.due("P18 0 to nothing", x.patch(0, 1, 0, NONE), 0);
        check.due("P18 15 to 0", x.patch(15, 1, 0, 0), 1);
        check.due("P18 0 to 15", x.patch(0, 1, 0, 15), 2);
        check.due("P18 15 to itself", x.patch(15, 1, 0, 15), 3);
        for (int off : new int[] {-2, 16}) {
            check.outside("P18 symbol " + off, () -> withAllSymbols(), y -> y.patch(off, 1, 0, NONE));
            check.outside("P18 to " + off, () -> withAllSymbols(), y -> y.patch(0, 1, 0, off));
            check.outside("P18 to before size, " + off, () -> withAllSymbols(), y -> y.patch(0, 0, 0, off));
            check.outside("P18 to before group, " + off, () -> withAllSymbols(), y -> y.patch(0, 1, 4, off));
            check.outside("P18 to before the image, " + off, Yards::fresh, y -> y.patch(0, 1, 0, off));
        }
        check.outside("P18 symbol -1", () -> withAllSymbols(), y -> y.patch(-1, 1, 0, NONE));
    }

    private static LinkfactoryYard withAllSymbols() {
        LinkfactoryYard x = sizes(40, 1, 1, 1, 1, 1, 1, 1, 1, 1, 1, 1, 1, 1, 1, 1, 1);
        x.link();
        return x;
    }

    /** "if size is not 1 to 20". */
    private static void sizesByNumbers() {
        check.due("P18 1", withAllSymbols().patch(0, 1, 0, NONE), 0);
        check.due("P18 20", withAllSymbols().patch(0, 20, 0, NONE), 0);
        for (int off : new int[] {0, 21}) {
            check.badArgument("P18 size " + off, () -> withAllSymbols(), x -> x.patch(0, off, 0, NONE));
            check.badArgument("P18 size before the image, " + off, Yards::fresh, x -> x.patch(0, off, 0, NONE));
            check.badArgument("P18 size before what stands, " + off, () -> roomFor(20), x -> x.patch(10, off, 0, 11));
            check.outside("P18 symbol before size, " + off, () -> withAllSymbols(), x -> x.patch(16, off, 0, NONE));
        }
    }

    /** "a GROUP, 1 to 3, or none (0)", "or group is not 0 to 3". */
    private static void groupsByNumbers() {
        for (int group = 0; group <= 3; group++) {
            LinkfactoryYard x = withAllSymbols();
            check.due("P18 group " + group, x.patch(0, 1, group, NONE), 0);
            check.due("P20 its group", x.ofPatch(0, 2), group);
        }
        for (int off : new int[] {-1, 4}) {
            check.badArgument("P18 group " + off, () -> withAllSymbols(), x -> x.patch(0, 1, off, NONE));
            check.badArgument("P18 group before the image, " + off, Yards::fresh, x -> x.patch(0, 1, off, NONE));
            check.badArgument("P18 group before what stands, " + off, () -> roomFor(20), x -> x.patch(10, 1, off, 11));
            check.outside("P18 symbol before group, " + off, () -> withAllSymbols(), x -> x.patch(-1, 1, off, NONE));
        }
    }

    /** "if there is no IMAGE". */
    private static void anImageIsNeeded() {
        check.badState("P18 a new yard", Yards::fresh, x -> x.patch(0, 1, 0, NONE));
        check.badState("P18 not linked", Yards::written, x -> x.patch(0, 1, 0, NONE));
        check.badState("P18 not linked, with a group", Yards::written, x -> x.patch(0, 20, 3, 0));
        check.due("P18 linked", Yards.linked().patch(0, 1, 0, NONE), 0);
        check.due("P18 beside faults of now", Yards.faulty().patch(0, 1, 0, NONE), 0);
    }

    /** "symbol or to STANDS for nothing". */
    private static void bothMustStandForSomething() {
        check.badState("P18 symbol has no piece", Yards::linked, x -> x.patch(15, 1, 0, NONE));
        check.badState("P18 symbol has one that is not in", Yards::linked, x -> x.patch(9, 1, 0, NONE));
        check.badState("P18 to has no piece", Yards::linked, x -> x.patch(0, 1, 0, 15));
        check.badState("P18 to has one that is not in", Yards::linked, x -> x.patch(0, 1, 0, 9));
        check.badState("P18 symbol has one that is newer", () -> withANewerPiece(), x -> x.patch(7, 1, 0, NONE));
        check.badState("P18 to has one that is newer", () -> withANewerPiece(), x -> x.patch(0, 1, 0, 7));
        check.due("P18 a weak one may be replaced", withAWeakPiece().patch(1, 1, 0, NONE), 0);
        check.due("P18 and referred to", withAWeakPiece().patch(0, 1, 0, 1), 0);
    }

    private static LinkfactoryYard withANewerPiece() {
        LinkfactoryYard x = Yards.linked();
        x.piece(0, 7, 1, false);
        return x;
    }

    private static LinkfactoryYard withAWeakPiece() {
        LinkfactoryYard x = sizes(40, 4);
        x.piece(0, 1, 4, true);
        x.link();
        return x;
    }

    private static LinkfactoryYard patched(int patches) {
        LinkfactoryYard x = withAllSymbols();
        for (int i = 0; i < patches; i++) {
            x.patch(i, 1, i % 4, NONE);
        }
        return x;
    }

    /** "At most 8 PATCHES of one IMAGE, numbered from 0", "there are 8". */
    private static void atMostEightPatches() {
        for (int patches = 0; patches < 8; patches++) {
            check.due("P18 behind " + patches, patched(patches).patch(0, 1, 0, NONE), patches);
        }
        check.badState("P18 the ninth, though all are done", () -> patched(8), x -> x.patch(9, 1, 0, NONE));
        check.badArgument("P18 size before 8", () -> patched(8), x -> x.patch(9, 0, 0, NONE));
        check.badArgument("P18 group before 8", () -> patched(8), x -> x.patch(9, 1, 4, NONE));
        check.outside("P18 symbol before 8", () -> patched(8), x -> x.patch(16, 1, 0, NONE));
        check.due("P12 none waits", patched(8).many(8), 0);
        check.badState("P18 the ninth, as all wait", () -> eightThatWait(), x -> x.patch(1, 1, 0, NONE));
        LinkfactoryYard x = patched(8);
        x.link();
        check.due("P18 of the next image", x.patch(9, 1, 0, NONE), 0);
    }

    private static LinkfactoryYard eightThatWait() {
        LinkfactoryYard x = withAllSymbols();
        x.run(0);
        for (int i = 0; i < 8; i++) {
            x.patch(0, 1, 0, NONE);
        }
        return x;
    }

    private static void thoseThatFailedAreAmongTheEight() {
        LinkfactoryYard x = Yards.failed();
        for (int patch = 2; patch < 8; patch++) {
            check.due("P18 patch " + patch, x.patch(8, 1, 0, NONE), patch);
        }
        check.badState("P18 the ninth", () -> x.patch(8, 1, 0, NONE));
        dueStates("P20 as before", x, FAILED, FAILED, DONE, DONE, DONE, DONE, DONE, DONE);
    }

    /** "each with a new PIECE, STRONG, all REFERENCES FAR". */
    private static void itsPiece() {
        LinkfactoryYard x = withAWeakPiece();
        x.patch(1, 20, 3, 0);
        int[] piece = {NONE, 1, 20, 1, 1, 8, 0};
        for (int what = 0; what <= 6; what++) {
            check.due("P9 what " + what, x.ofPiece(2, what), piece[what]);
        }
        x.patch(0, 1, 0, NONE);
        int[] next = {NONE, 0, 1, 1, 0, 4, 0};
        for (int what = 0; what <= 6; what++) {
            check.due("P9 of the next, what " + what, x.ofPiece(3, what), next[what]);
        }
        check.due("P10 it is far", farOff().steps(10, 0), 1);
        check.outside("P10 it has one reference", () -> farOff(), y -> y.steps(10, 1));
    }

    private static LinkfactoryYard farOff() {
        LinkfactoryYard x = roomFor(10);
        x.patch(9, 10, 0, 0);
        return x;
    }

    // ---- when it is clear

    /** "there are, somewhere, as many FREE WORDS one behind the other as the SIZE of its PIECE". */
    private static void asManyFreeWordsAsItsSize() {
        for (int free = 1; free <= 20; free++) {
            LinkfactoryYard x = roomFor(free);
            check.due("P24 " + free + " words", x.place(free), 200 - free);
            x.patch(8, free, 0, NONE);
            dueStates("P20 of " + free, x, DONE);
            check.due("P8 in the last words", x.ofSymbol(8, 1), 200 - free);
            check.due("P11 the last of all", x.map(199, 1), x.ofSymbol(8, 0));
            check.due("P24 the words before are free", x.place(20), 160);
        }
        for (int free = 1; free < 20; free++) {
            LinkfactoryYard x = roomFor(free);
            check.due("P24 a word more than " + free, x.place(free + 1), NONE);
            x.patch(8, free + 1, 0, NONE);
            dueStates("P20 of one more than " + free, x, WAITS);
            check.due("P8 it stands where it stood", x.ofSymbol(8, 1), 160);
            check.due("P12 nothing is laid", x.many(3), 200 - free);
            check.due("P21 nobody is waited for", x.backsFor(0), 0);
        }
    }

    private static void noFreeWordAtAll() {
        LinkfactoryYard x = roomFor(0);
        x.patch(0, 1, 0, NONE);
        x.patch(9, 20, 1, NONE);
        dueStates("P20 no room for 1", x, WAITS, WAITS);
        x.run(3);
        x.back(0);
        dueStates("P20 nor then", x, WAITS, WAITS);
        check.due("P12 200 words", x.many(3), 200);
    }

    /** 10 words at 180 and 5 at 195 are free: together more than 11, but not one behind the other. */
    private static LinkfactoryYard twoRooms() {
        LinkfactoryYard x = roomFor(10);
        x.patch(9, 5, 0, NONE);
        return x;
    }

    private static void freeWordsOneBehindTheOther() {
        LinkfactoryYard x = twoRooms();
        check.due("P12 15 are free", x.many(3), 185);
        check.due("P24 10 of them", x.place(10), 180);
        check.due("P24 not 11", x.place(11), NONE);
        x.patch(0, 11, 0, NONE);
        dueStates("P20 no room for 11", x, DONE, WAITS);
        LinkfactoryYard y = twoRooms();
        y.patch(0, 10, 0, NONE);
        dueStates("P20 room for 10", y, DONE, DONE);
        check.due("P8 there", y.ofSymbol(0, 1), 180);
    }

    /** "at the smallest WORD from which on there are as many FREE ones". */
    private static void theSmallestWord() {
        LinkfactoryYard x = twoRooms();
        x.patch(0, 5, 0, NONE);
        check.due("P8 5 of the 10, not the 5", x.ofSymbol(0, 1), 180);
        check.due("P11 free behind it", x.map(185, 0), 0);
        check.due("P11 its last word", x.map(184, 1), 11);
        x.patch(1, 20, 0, NONE);
        check.due("P8 in the first of all words", x.ofSymbol(1, 1), 0);
        x.patch(9, 5, 0, NONE);
        check.due("P8 where that was", x.ofSymbol(9, 1), 20);
    }

    private static void itsOwnWordsAreNotFreeBefore() {
        LinkfactoryYard x = roomFor(20);
        x.patch(0, 1, 0, NONE);
        check.due("P8 not in its own words", x.ofSymbol(0, 1), 180);
        x.patch(0, 1, 0, NONE);
        check.due("P8 but in those that were before", x.ofSymbol(0, 1), 0);
        x.patch(0, 1, 0, NONE);
        check.due("P8 not in its own word", x.ofSymbol(0, 1), 1);
        check.due("P11 that is free then", x.map(0, 0), 0);
    }

    /** Piece 0 refers to itself and to 1, piece 1 to 0. */
    private static LinkfactoryYard linked() {
        LinkfactoryYard x = sizes(40, 4, 4, 4, 4, 4, 4, 4, 4, 4);
        x.refer(0, 0, false);
        x.refer(0, 1, false);
        x.refer(1, 0, false);
        x.link();
        return x;
    }

    /** "no RUN has what its SYMBOL STANDS for in its STACK": at the bottom, in the middle, or at the top. */
    private static void nobodyAnywhereInAStack() {
        for (int place = 0; place < 8; place++) {
            LinkfactoryYard x = linked();
            x.run(place == 0 ? 1 : 0);
            for (int k = 1; k < 8; k++) {
                x.call(0, k == place ? 1 : 0);
            }
            check.due("P16 it is there", x.stack(0, place), 1);
            x.patch(1, 1, 0, NONE);
            for (int backs = 8 - place; backs > 0; backs--) {
                dueStates("P20 at place " + place + ", before " + backs, x, WAITS);
                check.due("P21 so many", x.backsFor(0), backs);
                x.back(0);
            }
            dueStates("P20 at place " + place + " no more", x, DONE);
        }
    }

    private static void nobodyInAnyRun() {
        for (int run = 0; run < 4; run++) {
            LinkfactoryYard x = linked();
            for (int i = 0; i < 4; i++) {
                x.run(i == run ? 1 : 0);
            }
            x.patch(1, 1, 0, NONE);
            dueStates("P20 run " + run + " has it", x, WAITS);
            x.patch(2, 1, 0, NONE);
            dueStates("P20 none has that", x, WAITS, DONE);
            x.back((run + 1) % 4);
            dueStates("P20 still", x, WAITS);
            x.back(run);
            dueStates("P20 none has it", x, DONE);
        }
    }

    /** "no one with a smaller number for the same SYMBOL WAITS". */
    private static void behindOneForTheSameSymbol() {
        LinkfactoryYard x = roomFor(10);
        x.patch(0, 11, 0, NONE);
        x.patch(0, 10, 0, NONE);
        dueStates("P20 it had room, but waits behind the other", x, WAITS, WAITS);
        x.patch(1, 10, 0, NONE);
        dueStates("P20 both are done, one after the other", x, DONE, DONE, DONE);
        check.due("P8 the last one stands", x.ofSymbol(0, 0), 11);
        LinkfactoryYard y = roomFor(20);
        y.patch(0, 10, 0, NONE);
        y.patch(0, 10, 0, NONE);
        dueStates("P20 one that is done is not waited for", y, DONE, DONE);
        LinkfactoryYard z = Yards.failed();
        z.patch(0, 10, 0, NONE);
        dueStates("P20 nor one that failed", z, FAILED, FAILED, DONE);
    }

    private static void onlyTheSameSymbolCounts() {
        LinkfactoryYard x = roomFor(10);
        x.patch(0, 11, 0, NONE);
        x.patch(1, 11, 0, NONE);
        x.patch(9, 10, 0, NONE);
        dueStates("P20 that for another one is done", x, WAITS, WAITS, DONE);
        check.due("P8 how many for 0", x.ofSymbol(0, 3), 1);
        check.due("P8 how many for 9", x.ofSymbol(9, 3), 0);
    }

    /** "as long as there is a PATCH that can be DONE": each makes room for the next, also for smaller numbers. */
    private static void asLongAsThereIsOne() {
        LinkfactoryYard x = roomFor(5);
        for (int patch = 0; patch < 7; patch++) {
            x.patch(6 - patch, 20, 0, NONE);
        }
        check.due("P12 seven wait", x.many(8), 7);
        x.patch(9, 5, 0, NONE);
        check.due("P12 one word too few", x.many(8), 7);
        check.due("P8 that one is done", x.ofSymbol(9, 1), 195);
        LinkfactoryYard y = roomFor(5);
        for (int patch = 0; patch < 7; patch++) {
            y.patch(6 - patch, 20, 0, NONE);
        }
        y.patch(8, 5, 0, NONE);
        check.due("P12 none waits", y.many(8), 0);
        check.due("P8 the first where that was", y.ofSymbol(6, 1), 160);
        check.due("P8 the second where the first was", y.ofSymbol(5, 1), 120);
        check.due("P8 the last where the one before was", y.ofSymbol(0, 1), 20);
    }

    /** "the one with the smallest number is": with it its group, and only then what lies between. */
    private static void theSmallestNumberFirst() {
        LinkfactoryYard x = linked();
        x.run(0);
        x.patch(0, 1, 1, NONE);
        x.patch(0, 1, 0, NONE);
        x.patch(1, 1, 1, NONE);
        x.patch(2, 5, 1, NONE);
        x.back(0);
        dueStates("P20 all", x, DONE, DONE, DONE, DONE);
        check.due("P8 the second of the group where the first left room", x.ofSymbol(1, 1), 0);
        check.due("P8 the third of the group behind it", x.ofSymbol(2, 1), 1);
        check.due("P8 that for 0 again behind them", x.ofSymbol(0, 1), 6);
    }

    // ---- jumps

    /** "REACHES neither the new PIECE ..": the new one is just in reach, or one word too far. */
    private static void jumpsForwards() {
        LinkfactoryYard x = sizes(5, 3, 2);
        dueJump("5 words", x, 0, 1, 5, NONE);
        LinkfactoryYard y = sizes(5, 3, 3);
        dueJump("6 words", y, 0, 1, 6, 3);
        LinkfactoryYard z = sizes(100, 20, 20, 20, 20, 20);
        dueJump("100 words", z, 0, 4, 100, NONE);
        LinkfactoryYard u = sizes(100, 20, 20, 20, 20, 20, 1);
        dueJump("101 words", u, 0, 4, 101, 80);
    }

    /** A piece is near to a symbol, that is patched: where it is then, and its jump. */
    private static void dueJump(String what, LinkfactoryYard x, int piece, int symbol, int place, int jump) {
        x.refer(piece, symbol, true);
        check.due("P6 links, " + what, x.link(), 0);
        check.due("P10 one step, " + what, x.steps(piece, 0), 1);
        x.patch(symbol, 7, 0, NONE);
        check.due("P8 it is at, " + what, x.ofSymbol(symbol, 1), place);
        check.due("P8 its jump, " + what, x.ofSymbol(symbol, 2), jump);
        check.due("P12 jumps, " + what, x.many(5), jump == NONE ? 0 : 1);
        check.due("P10 steps then, " + what, x.steps(piece, 0), jump == NONE ? 1 : 2);
    }

    /** The new one is laid in the first words, that another one has left. */
    private static void jumpsBackwards() {
        LinkfactoryYard x = sizes(5, 4, 1, 1);
        x.refer(2, 1, true);
        x.link();
        x.patch(0, 1, 0, NONE);
        x.patch(1, 1, 0, NONE);
        check.due("P8 5 words back", x.ofSymbol(1, 1), 0);
        check.due("P8 no jump", x.ofSymbol(1, 2), NONE);
        check.due("P10 one step", x.steps(2, 0), 1);
        LinkfactoryYard y = sizes(5, 5, 1, 1);
        y.refer(2, 1, true);
        y.link();
        y.patch(0, 1, 0, NONE);
        y.patch(1, 1, 0, NONE);
        check.due("P8 6 words back", y.ofSymbol(1, 1), 0);
        check.due("P8 a jump", y.ofSymbol(1, 2), 5);
        check.due("P10 two steps", y.steps(2, 0), 2);
    }

    /** ".. nor an ISLAND of its OBJECT for that SYMBOL": there is one, but not in reach of all. */
    private static void islandsThatAreTooFar() {
        LinkfactoryYard x = sizes(5, 3, 3, 10, 1);
        x.refer(0, 1, true);
        x.refer(3, 1, true);
        check.due("P6 links", x.link(), 0);
        check.due("P11 an island", x.map(17, 0), 2);
        check.due("P10 one step before", x.steps(0, 0), 1);
        x.patch(1, 5, 0, NONE);
        check.due("P8 behind the island", x.ofSymbol(1, 1), 18);
        check.due("P8 a jump, as the island is 17 words off", x.ofSymbol(1, 2), 3);
        check.due("P10 by the jump", x.steps(0, 0), 2);
        check.due("P10 without the island", x.steps(3, 0), 1);
    }

    private static void islandsThatAreReached() {
        LinkfactoryYard x = sizes(5, 5, 1, 1);
        x.refer(1, 0, true);
        x.refer(2, 0, true);
        x.object(false);
        x.piece(1, 3, 20, false);
        check.due("P6 links", x.link(), 0);
        check.due("P11 an island", x.map(7, 0), 2);
        check.due("P10 one step before", x.steps(1, 0), 1);
        x.patch(0, 10, 0, NONE);
        check.due("P8 far off", x.ofSymbol(0, 1), 28);
        check.due("P8 no jump, as both reach the island", x.ofSymbol(0, 2), NONE);
        check.due("P10 by the island", x.steps(1, 0), 2);
        check.due("P10 by the island too", x.steps(2, 0), 2);
        check.due("P11 the first word is free", x.map(0, 0), 0);
    }

    /** "a NEAR REFERENCE to it, of a PIECE that is laid". */
    private static void whoseReferencesCount() {
        check.due("P8 a strong one's", jumpWith(false, true, 0), 0);
        check.due("P8 a weak one's that does not stand", jumpWith(true, true, 0), 0);
        check.due("P8 not a far one", jumpWith(false, false, 0), NONE);
        check.due("P8 not one of an object that is not in", jumpWith(false, true, 1), NONE);
        LinkfactoryYard x = sizes(5, 3, 3);
        x.link();
        x.piece(0, 2, 1, false);
        x.refer(2, 0, true);
        x.patch(0, 1, 0, NONE);
        check.due("P8 not one of a newer piece", x.ofSymbol(0, 2), NONE);
        LinkfactoryYard y = sizes(5, 1, 3);
        y.refer(1, 0, true);
        y.link();
        y.patch(1, 20, 0, NONE);
        y.patch(0, 20, 0, NONE);
        check.due("P8 not one of a piece that was replaced", y.ofSymbol(0, 2), NONE);
        check.due("P8 it is far off", y.ofSymbol(0, 1), 24);
        LinkfactoryYard z = sizes(5, 3, 20);
        z.refer(0, 0, true);
        z.link();
        z.patch(0, 3, 0, 0);
        check.due("P8 not one of the piece itself", z.ofSymbol(0, 2), NONE);
    }

    /** The jump for 0 when it is patched, where a piece of an object (1: it is archived, and not in) is near to it. */
    private static int jumpWith(boolean isWeak, boolean isNear, int object) {
        LinkfactoryYard x = new LinkfactoryYard();
        x.object(false);
        x.object(true);
        x.piece(0, 0, 3, false);
        x.piece(0, 1, 1, false);
        x.piece(object, object == 1 ? 2 : 1, 1, isWeak || object == 0);
        x.refer(2, 0, isNear);
        x.piece(0, 3, 20, false);
        x.reach(5);
        check.due("P6 links", x.link(), 0);
        x.patch(0, 3, 0, NONE);
        return x.ofSymbol(0, 2);
    }

    /** "the first one of these WORDS is not FREE, but a JUMP": of a single word none is left. */
    private static void oneWordAndAJump() {
        LinkfactoryYard x = sizes(5, 1, 1, 20);
        x.refer(1, 0, true);
        x.link();
        x.patch(0, 1, 0, NONE);
        check.due("P8 a jump", x.ofSymbol(0, 2), 0);
        check.due("P11 it is a jump", x.map(0, 0), 3);
        check.due("P11 for 0", x.map(0, 1), 0);
        check.due("P11 the next word is what it was", x.map(1, 1), 1);
        check.due("P12 a word more", x.many(3), 23);
        check.due("P24 no free word but behind the last", x.place(1), 23);
    }

    /** "and stays so": until there is a new image. */
    private static void theWordOfAJumpIsNotFree() {
        LinkfactoryYard x = sizes(5, 6, 1, 20);
        x.refer(1, 0, true);
        check.due("P6 an island is not needed", x.islandsWith(6), 0);
        x.reach(6);
        x.link();
        x.patch(0, 1, 0, NONE);
        check.due("P8 a jump", x.ofSymbol(0, 2), 0);
        check.due("P24 behind the jump", x.place(5), 1);
        check.due("P24 not with its word", x.place(6), 28);
        x.patch(0, 5, 0, NONE);
        check.due("P8 in reach again", x.ofSymbol(0, 1), 1);
        check.due("P10 one step", x.steps(1, 0), 1);
        check.due("P8 the jump stays", x.ofSymbol(0, 2), 0);
        x.patch(0, 1, 0, NONE);
        check.due("P8 out of reach", x.ofSymbol(0, 1), 27);
        check.due("P11 no second jump", x.map(1, 0), 0);
        check.due("P10 by the jump", x.steps(1, 0), 2);
        x.patch(1, 1, 0, NONE);
        check.due("P8 nobody needs it, but it stays", x.ofSymbol(0, 2), 0);
        x.link();
        check.due("P8 in a new image there is none", x.ofSymbol(0, 2), NONE);
        check.due("P11 it is of the piece", x.map(0, 1), 0);
    }

    // ---- groups

    /** "or none (0)". */
    private static void groupZeroIsNone() {
        LinkfactoryYard x = linked();
        x.run(0);
        x.patch(0, 1, 0, NONE);
        x.patch(1, 1, 0, NONE);
        dueStates("P20 the one does not wait for the other", x, WAITS, DONE);
    }

    /** "if it and all others of its GROUP that WAIT are CLEAR". */
    private static void threeGroups() {
        LinkfactoryYard x = linked();
        x.run(0);
        x.run(1);
        x.patch(0, 1, 1, NONE);
        x.patch(1, 1, 2, NONE);
        x.patch(2, 1, 1, NONE);
        x.patch(3, 1, 2, NONE);
        x.patch(4, 1, 3, NONE);
        dueStates("P20 none of 1 and 2", x, WAITS, WAITS, WAITS, WAITS, DONE);
        x.back(0);
        dueStates("P20 those of 1", x, DONE, WAITS, DONE, WAITS, DONE);
        x.patch(5, 1, 1, NONE);
        x.patch(6, 1, 2, NONE);
        dueStates("P20 another one of each", x, DONE, WAITS, DONE, WAITS, DONE, DONE, WAITS);
        x.back(1);
        dueStates("P20 those of 2", x, DONE, DONE, DONE, DONE, DONE, DONE, DONE);
    }

    /** Without room for one of it a group waits: it has not failed. */
    private static void aGroupThatHasNoRoomYet() {
        LinkfactoryYard x = roomFor(19);
        x.run(0);
        x.patch(0, 5, 1, NONE);
        x.patch(2, 20, 1, NONE);
        x.back(0);
        dueStates("P20 19 words are too few", x, WAITS, WAITS);
        check.due("P21 nobody is waited for", x.backsFor(1), 0);
        x.patch(3, 19, 0, NONE);
        dueStates("P20 now there are 20", x, DONE, DONE, DONE);
        check.due("P8 the third is the first", x.ofSymbol(3, 1), 181);
        check.due("P8 then the first", x.ofSymbol(0, 1), 60);
        check.due("P8 then the second", x.ofSymbol(2, 1), 0);
    }

    private static void aGroupOfEight() {
        LinkfactoryYard x = linked();
        x.run(0);
        for (int patch = 0; patch < 8; patch++) {
            x.patch(patch, 4, 3, NONE);
        }
        dueStates("P20 all wait", x, WAITS, WAITS, WAITS, WAITS, WAITS, WAITS, WAITS, WAITS);
        x.back(0);
        dueStates("P20 all are done", x, DONE, DONE, DONE, DONE, DONE, DONE, DONE, DONE);
        check.due("P8 the first behind the last", x.ofSymbol(0, 1), 36);
        for (int symbol = 1; symbol < 8; symbol++) {
            check.due("P8 each where the one before was", x.ofSymbol(symbol, 1), 4 * symbol - 4);
        }
    }

    /** The first leaves a jump at 0, and 19 words behind it. */
    private static LinkfactoryYard grouped(int sizeOfSecond) {
        LinkfactoryYard x = Yards.tight();
        x.run(0);
        x.patch(0, 20, 1, NONE);
        x.patch(2, sizeOfSecond, 1, NONE);
        x.patch(0, 1, 2, NONE);
        x.patch(3, 19, 2, NONE);
        x.gate(2, true);
        x.back(0);
        return x;
    }

    private static void aGroupThatJustFits() {
        LinkfactoryYard x = grouped(19);
        dueStates("P20 19 words", x, DONE, DONE, DONE, DONE);
        check.due("P8 behind the jump", x.ofSymbol(2, 1), 1);
        check.due("P8 the jump", x.ofSymbol(0, 2), 0);
        check.due("P8 the other group where the second was", x.ofSymbol(0, 1), 40);
    }

    /** "none of these is DONE, and all of these have FAILED". */
    private static void aGroupThatFails() {
        LinkfactoryYard x = grouped(20);
        dueStates("P20 20 words, and then the other group", x, FAILED, FAILED, DONE, DONE);
        check.due("P9 the first is not laid", x.ofPiece(9, 5), NONE);
        check.due("P9 nor the second", x.ofPiece(10, 5), NONE);
        check.due("P8 what it stands for", x.ofSymbol(2, 0), 2);
        check.due("P8 none of them waits", x.ofSymbol(2, 3), 0);
        check.due("P13 so the gate does not hold", x.run(2), 0);
        check.outside("P21 nor can it be asked for", () -> grouped(20), y -> y.backsFor(1));
        check.outside("P21 nor the first", () -> grouped(20), y -> y.backsFor(0));
        x.patch(2, 1, 1, NONE);
        dueStates("P20 one that comes then waits for the run alone", x, FAILED, FAILED, DONE, DONE, WAITS);
        x.back(0);
        dueStates("P20 and is done", x, FAILED, FAILED, DONE, DONE, DONE);
    }

    // ---- by numbers

    /** "Returns whether there was one". */
    private static void gatesByNumbers() {
        LinkfactoryYard x = new LinkfactoryYard();
        for (int symbol = 0; symbol < 16; symbol++) {
            check.due("P19 none on " + symbol, x.gate(symbol, false), false);
            check.due("P19 still none on " + symbol, x.gate(symbol, true), false);
            check.due("P19 one on " + symbol, x.gate(symbol, true), true);
        }
        for (int symbol = 0; symbol < 16; symbol++) {
            check.due("P19 still one on " + symbol, x.gate(symbol, false), true);
            check.due("P19 none any more on " + symbol, x.gate(symbol, false), false);
        }
        for (int off : new int[] {-1, 16}) {
            check.outside("P19 on, symbol " + off, Yards::running, y -> y.gate(off, true));
            check.outside("P19 off, symbol " + off, Yards::running, y -> y.gate(off, false));
        }
    }

    /** "if there is no such PATCH", "if what is not 0 to 3". */
    private static void patchesByNumbers() {
        LinkfactoryYard x = Yards.running();
        int[][] due = {{1, 6, 0, DONE}, {0, 7, 1, WAITS}, {2, 8, 1, WAITS}, {1, 9, 0, WAITS}};
        for (int patch = 0; patch < 4; patch++) {
            for (int what = 0; what <= 3; what++) {
                check.due("P20 patch " + patch + ", what " + what, x.ofPatch(patch, what), due[patch][what]);
            }
        }
        check.outside("P20 behind the last", Yards::running, y -> y.ofPatch(4, 0));
        check.outside("P20 before the first", Yards::running, y -> y.ofPatch(-1, 0));
        check.badArgument("P20 what 4", Yards::running, y -> y.ofPatch(3, 4));
        check.badArgument("P20 what -1", Yards::running, y -> y.ofPatch(0, -1));
        check.outside("P20 the patch before what", Yards::running, y -> y.ofPatch(4, 4));
        check.outside("P20 no patch", Yards::linked, y -> y.ofPatch(0, 0));
        check.due("P20 the last of eight", Yards.full().ofPatch(7, 1), 39);
        check.outside("P20 no ninth", Yards::full, y -> y.ofPatch(8, 0));
    }
}
