/** Promises 18 to 20: patches, alone and in groups, gates and jumps. */
public final class PatchesTest {
    private static final int NONE = -1;
    private static final Check check = new Check("PatchesTest");

    public static void main(String[] args) {
        wrongArguments();
        mostPatches();
        oneAfterTheOther();
        noFreeWords();
        jumpsStay();
        islandsInsteadOfJumps();
        replacedPiecesNeedNoJump();
        oneForASymbolAtATime();
        eightAtOnce();
        groupsWaitForAll();
        groupsThatAreStuck();
        groupsThatFail();
        freedWordsHelpTheNext();
        gates();
        check.end();
    }

    /** Three pieces of 10 words for 0, 1 and 2; piece 0 is near to 1 and far from 2, piece 1 near to 2. */
    private static LinkfactoryYard linked() {
        LinkfactoryYard x = new LinkfactoryYard();
        x.object(false);
        x.piece(0, 0, 10, false);
        x.piece(0, 1, 10, false);
        x.piece(0, 2, 10, false);
        x.refer(0, 1, true);
        x.refer(0, 2, false);
        x.refer(1, 2, true);
        x.link();
        return x;
    }

    /** Nine pieces of 20 words for 0 to 8; piece 1 is near to 0. Only 20 words are free. */
    private static LinkfactoryYard tight() {
        LinkfactoryYard x = new LinkfactoryYard();
        x.object(false);
        for (int i = 0; i < 9; i++) {
            x.piece(0, i, 20, false);
        }
        x.refer(1, 0, true);
        x.link();
        return x;
    }

    private static void duePatch(LinkfactoryYard x, int patch, int symbol, int piece, int group, int state) {
        check.due("P20 symbol of " + patch, x.ofPatch(patch, 0), symbol);
        check.due("P20 piece of " + patch, x.ofPatch(patch, 1), piece);
        check.due("P20 group of " + patch, x.ofPatch(patch, 2), group);
        check.due("P20 state of " + patch, x.ofPatch(patch, 3), state);
    }

    private static void wrongArguments() {
        LinkfactoryYard none = new LinkfactoryYard();
        check.badState("P18 no image", () -> none.patch(0, 1, 0, NONE));
        LinkfactoryYard x = linked();
        check.outside("P18 symbol -1", () -> x.patch(-1, 1, 0, NONE));
        check.outside("P18 symbol 16", () -> x.patch(16, 1, 0, NONE));
        check.outside("P18 to -2", () -> x.patch(0, 1, 0, -2));
        check.outside("P18 to 16", () -> x.patch(0, 1, 0, 16));
        check.outside("P18 to before size", () -> x.patch(0, 0, 0, 16));
        check.badArgument("P18 size 0", () -> x.patch(0, 0, 0, NONE));
        check.badArgument("P18 size 21", () -> x.patch(0, 21, 0, NONE));
        check.badArgument("P18 group -1", () -> x.patch(0, 1, -1, NONE));
        check.badArgument("P18 group 4", () -> x.patch(0, 1, 4, NONE));
        check.badArgument("P18 size before what stands", () -> x.patch(5, 0, 0, NONE));
        check.badState("P18 symbol stands for nothing", () -> x.patch(5, 1, 0, NONE));
        check.badState("P18 to stands for nothing", () -> x.patch(0, 1, 0, 5));
        check.due("P18 no piece came", x.many(1), 3);
        check.outside("P20 no patch", () -> x.ofPatch(0, 0));
        x.patch(0, 20, 3, 0);
        check.outside("P20 patch 1", () -> x.ofPatch(1, 0));
        check.outside("P20 patch -1", () -> x.ofPatch(-1, 4));
        check.badArgument("P20 what 4", () -> x.ofPatch(0, 4));
        check.badArgument("P20 what -1", () -> x.ofPatch(0, -1));
        duePatch(x, 0, 0, 3, 3, 1);
    }

    private static void mostPatches() {
        LinkfactoryYard x = linked();
        for (int i = 0; i < 8; i++) {
            check.due("P18 patch " + i, x.patch(0, 1, 0, NONE), i);
            check.due("P12 patches", x.many(7), i + 1);
        }
        check.badState("P18 there are 8", () -> x.patch(0, 1, 0, NONE));
        check.badArgument("P18 size before 8", () -> x.patch(0, 21, 0, NONE));
        check.due("P12 none waits", x.many(8), 0);
        x.link();
        check.due("P18 of one image", x.patch(0, 1, 0, NONE), 0);
    }

    private static void oneAfterTheOther() {
        LinkfactoryYard x = linked();
        check.due("P18 at once", x.patch(1, 5, 0, 2), 0);
        duePatch(x, 0, 1, 3, 0, 1);
        check.due("P8 stands", x.ofSymbol(1, 0), 3);
        check.due("P8 behind the last", x.ofSymbol(1, 1), 30);
        check.due("P8 no jump: it is in reach", x.ofSymbol(1, 2), NONE);
        check.due("P11 the old words are free", x.map(10, 0), 0);
        check.due("P11 all of them", x.map(19, 0), 0);
        check.due("P9 of no object", x.ofPiece(3, 0), NONE);
        check.due("P9 strong", x.ofPiece(3, 3), 1);
        check.due("P9 one reference", x.ofPiece(3, 4), 1);
        check.due("P10 it is far", x.steps(3, 0), 1);
        check.due("P18 in the first room that is large enough", x.patch(2, 10, 0, NONE), 1);
        check.due("P8 there", x.ofSymbol(2, 1), 10);
        check.due("P9 no reference", x.ofPiece(4, 4), 0);
        check.due("P24 the next room", x.place(10), 20);
        x.run(1);
        check.due("P18 somebody runs in it", x.patch(1, 1, 0, NONE), 2);
        check.due("P20 so it waits", x.ofPatch(2, 3), 0);
        check.due("P8 one waits", x.ofSymbol(1, 3), 1);
        check.due("P14 what the run has, it keeps", x.call(0, 0), 4);
        check.due("P18 another symbol does not wait", x.patch(0, 1, 0, NONE), 3);
        check.due("P20 done", x.ofPatch(3, 3), 1);
        check.due("P15 back", x.back(0), 3);
        check.due("P20 it waits", x.ofPatch(2, 3), 0);
        check.due("P15 back again", x.back(0), NONE);
        check.due("P20 done too", x.ofPatch(2, 3), 1);
        check.due("P8 none waits", x.ofSymbol(1, 3), 0);
    }

    private static void noFreeWords() {
        LinkfactoryYard x = tight();
        x.object(false);
        check.due("P18 room for it", x.patch(8, 1, 0, NONE), 0);
        check.due("P8 the first word that was free", x.ofSymbol(8, 1), 180);
        check.due("P24 room", x.place(20), 160);
        x.patch(7, 11, 0, NONE);
        check.due("P8 in the first room", x.ofSymbol(7, 1), 160);
        check.due("P24 40 words but for 11 and 1", x.place(20), 140);
        x.run(6);
        x.patch(6, 20, 0, NONE);
        x.patch(5, 20, 0, NONE);
        check.due("P20 it took the room", x.ofPatch(3, 3), 1);
        check.due("P24 that which was there", x.place(20), 100);
        x.patch(5, 19, 0, NONE);
        check.due("P8 in what is free there", x.ofSymbol(5, 1), 100);
        x.back(0);
        check.due("P20 now done", x.ofPatch(2, 3), 1);
        check.due("P8 in the room that was there then", x.ofSymbol(6, 1), 140);
    }

    private static void jumpsStay() {
        LinkfactoryYard x = linked();
        x.patch(1, 20, 0, NONE);
        check.due("P8 in reach, exactly", x.ofSymbol(1, 1), 30);
        x.patch(1, 20, 0, NONE);
        check.due("P8 out of reach", x.ofSymbol(1, 1), 50);
        check.due("P8 a jump where it was", x.ofSymbol(1, 2), 30);
        check.due("P11 a jump", x.map(30, 0), 3);
        check.due("P11 for 1", x.map(30, 1), 1);
        check.due("P11 free behind it", x.map(31, 0), 0);
        check.due("P10 by the jump", x.steps(0, 0), 2);
        x.patch(1, 10, 0, NONE);
        check.due("P8 in reach again", x.ofSymbol(1, 1), 10);
        check.due("P8 the jump stays", x.ofSymbol(1, 2), 30);
        check.due("P10 without the jump", x.steps(0, 0), 1);
        x.patch(1, 20, 0, NONE);
        check.due("P8 out of reach again", x.ofSymbol(1, 1), 31);
        x.patch(1, 20, 0, NONE);
        check.due("P8 far out of reach", x.ofSymbol(1, 1), 51);
        check.due("P8 still the one jump", x.ofSymbol(1, 2), 30);
        check.due("P12 one jump", x.many(5), 1);
        check.due("P11 no second one", x.map(31, 0), 0);
        x.patch(2, 1, 0, NONE);
        check.due("P8 none for a symbol that is near to what is not laid any more", x.ofSymbol(2, 2), NONE);
        x.link();
        check.due("P12 no jumps in a new image", x.many(5), 0);
        check.due("P8 nor for the symbol", x.ofSymbol(1, 2), NONE);
    }

    private static void islandsInsteadOfJumps() {
        LinkfactoryYard x = new LinkfactoryYard();
        x.object(false);
        x.object(false);
        x.piece(0, 0, 3, false);
        x.piece(1, 1, 3, false);
        x.piece(1, 2, 3, false);
        x.refer(0, 2, true);
        x.refer(2, 1, true);
        x.reach(5);
        x.link();
        check.due("P8 an island pushed it", x.ofSymbol(2, 1), 7);
        x.patch(2, 20, 0, NONE);
        check.due("P8 out of reach", x.ofSymbol(2, 1), 10);
        check.due("P8 but there is the island", x.ofSymbol(2, 2), NONE);
        check.due("P10 by the island", x.steps(0, 0), 2);
        check.due("P12 one island", x.many(4), 1);
        x.patch(1, 20, 0, NONE);
        check.due("P8 the one that was near to 1 is not laid any more", x.ofSymbol(1, 2), NONE);
        LinkfactoryYard y = new LinkfactoryYard();
        y.object(false);
        y.object(false);
        y.piece(0, 0, 3, false);
        y.piece(1, 2, 3, false);
        y.piece(1, 1, 9, false);
        y.piece(0, 3, 1, false);
        y.refer(0, 1, true);
        y.refer(1, 1, true);
        y.reach(6);
        y.link();
        check.due("P12 the first object has one", y.many(4), 1);
        y.patch(1, 20, 0, NONE);
        check.due("P8 the second object has none", y.ofSymbol(1, 2), 8);
        check.due("P10 by the island still", y.steps(0, 0), 2);
        check.due("P10 by the jump", y.steps(1, 0), 2);
    }

    private static void replacedPiecesNeedNoJump() {
        LinkfactoryYard x = new LinkfactoryYard();
        x.object(false);
        x.piece(0, 0, 1, false);
        x.piece(0, 1, 20, false);
        x.refer(0, 0, true);
        x.refer(1, 1, false);
        x.reach(5);
        x.link();
        x.patch(0, 1, 0, 0);
        check.due("P8 no jump for its own reference", x.ofSymbol(0, 2), NONE);
        check.due("P11 so its word is free", x.map(0, 0), 0);
        x.patch(1, 20, 0, 0);
        check.due("P8 no jump for far ones", x.ofSymbol(1, 2), NONE);
    }

    private static void oneForASymbolAtATime() {
        LinkfactoryYard x = linked();
        x.run(1);
        x.patch(1, 10, 0, NONE);
        x.patch(1, 5, 0, NONE);
        x.patch(1, 20, 0, NONE);
        check.due("P8 three wait", x.ofSymbol(1, 3), 3);
        check.due("P12 three wait", x.many(8), 3);
        x.back(0);
        check.due("P12 none waits", x.many(8), 0);
        check.due("P8 the last one stands", x.ofSymbol(1, 0), 5);
        check.due("P8 the first went to 30, the second to 10, the third to 30 again", x.ofSymbol(1, 1), 30);
        check.due("P8 all in reach", x.ofSymbol(1, 2), NONE);
    }

    private static void eightAtOnce() {
        LinkfactoryYard x = linked();
        x.run(2);
        for (int i = 0; i < 8; i++) {
            x.patch(2, 1 + i, 0, NONE);
        }
        check.due("P12 eight wait", x.many(8), 8);
        check.due("P8 for the symbol", x.ofSymbol(2, 3), 8);
        x.back(0);
        check.due("P12 none waits", x.many(8), 0);
        check.due("P8 the last one stands", x.ofSymbol(2, 0), 10);
    }

    private static void groupsWaitForAll() {
        LinkfactoryYard x = linked();
        x.run(1);
        x.patch(1, 4, 2, NONE);
        x.patch(2, 4, 2, NONE);
        x.patch(0, 4, 1, NONE);
        x.patch(0, 4, 0, NONE);
        check.due("P20 somebody runs in it", x.ofPatch(0, 3), 0);
        check.due("P20 it waits with it", x.ofPatch(1, 3), 0);
        check.due("P20 another group", x.ofPatch(2, 3), 1);
        check.due("P20 no group", x.ofPatch(3, 3), 1);
        x.back(0);
        check.due("P20 done with the other", x.ofPatch(0, 3), 1);
        check.due("P20 done as well", x.ofPatch(1, 3), 1);
        check.due("P18 of the group none waits", x.patch(0, 4, 2, NONE), 4);
        check.due("P20 so it is done alone", x.ofPatch(4, 3), 1);
    }

    private static void groupsThatAreStuck() {
        LinkfactoryYard x = linked();
        x.run(1);
        x.patch(1, 4, 1, NONE);
        x.patch(1, 4, 1, NONE);
        x.back(0);
        check.due("P20 the second is not clear", x.ofPatch(0, 3), 0);
        check.due("P20 as the first waits", x.ofPatch(1, 3), 0);
        check.due("P8 both wait", x.ofSymbol(1, 3), 2);
        check.due("P8 what was there stands", x.ofSymbol(1, 0), 1);
        x.patch(1, 4, 0, NONE);
        check.due("P20 nor is one behind them", x.ofPatch(2, 3), 0);
        x.gate(1, true);
        check.badState("P13 the gate holds", () -> x.run(1));
        x.patch(2, 4, 0, NONE);
        check.due("P20 others are done", x.ofPatch(3, 3), 1);
        x.link();
        check.due("P13 after linking it does not hold", x.run(1), 0);
    }

    /** Each finds 20 free words; but the jump that the first leaves takes one from the second. */
    private static void groupsThatFail() {
        LinkfactoryYard x = tight();
        x.run(0);
        x.patch(0, 20, 1, NONE);
        x.patch(2, 20, 1, NONE);
        x.patch(0, 19, 0, NONE);
        long before = x.many(3);
        x.back(0);
        duePatch(x, 0, 0, 9, 1, 2);
        duePatch(x, 1, 2, 10, 1, 2);
        duePatch(x, 2, 0, 11, 0, 1);
        check.due("P9 the first is not laid", x.ofPiece(9, 5), NONE);
        check.due("P9 nor the second", x.ofPiece(10, 5), NONE);
        check.due("P8 what was there stands", x.ofSymbol(2, 0), 2);
        check.due("P8 the one behind them is done then", x.ofSymbol(0, 1), 180);
        check.due("P8 with a jump", x.ofSymbol(0, 2), 0);
        check.due("P12 as many words", x.many(3), before);
        check.due("P8 none waits", x.ofSymbol(0, 3), 0);
        LinkfactoryYard y = tight();
        y.run(0);
        y.patch(0, 20, 1, NONE);
        y.patch(2, 20, 1, NONE);
        y.back(0);
        check.due("P20 failed", y.ofPatch(0, 3), 2);
        check.due("P8 no jump", y.ofSymbol(0, 2), NONE);
        check.due("P11 all is as it was", y.map(0, 0), 1);
        check.due("P11 nothing was laid", y.map(180, 0), 0);
        check.due("P12 as many words as before", y.many(3), 180);
        check.due("P18 of the group none waits", y.patch(2, 20, 1, NONE), 2);
        check.due("P20 done alone", y.ofPatch(2, 3), 1);
    }

    private static void freedWordsHelpTheNext() {
        LinkfactoryYard x = tight();
        x.run(4);
        x.patch(4, 20, 3, NONE);
        x.patch(2, 20, 3, NONE);
        x.back(0);
        check.due("P20 done", x.ofPatch(0, 3), 1);
        check.due("P20 done too", x.ofPatch(1, 3), 1);
        check.due("P8 the first by numbers", x.ofSymbol(4, 1), 180);
        check.due("P8 the second where that was", x.ofSymbol(2, 1), 80);
        check.due("P24 what is free then", x.place(20), 40);
    }

    private static void gates() {
        LinkfactoryYard x = new LinkfactoryYard();
        check.due("P19 there was none", x.gate(15, true), false);
        check.due("P19 there was one", x.gate(15, true), true);
        check.due("P19 it is taken away", x.gate(15, false), true);
        check.due("P19 there is none any more", x.gate(15, false), false);
        check.due("P19 another symbol", x.gate(0, false), false);
        check.outside("P19 symbol -1", () -> x.gate(-1, true));
        check.outside("P19 symbol 16", () -> x.gate(16, true));
    }
}
