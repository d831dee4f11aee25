/** Promises 13 to 17: runs, that call and come back. */
public final class RunsTest {
    private static final int NONE = -1;
    private static final Check check = new Check("RunsTest");

    public static void main(String[] args) {
        runsBegin();
        runsCallAndComeBack();
        fullStacks();
        gates();
        means();
        check.end();
    }

    /** Symbols 0 to 2; piece 0 refers to 1 and itself, piece 1 to 2. */
    private static LinkfactoryYard linked() {
        LinkfactoryYard x = new LinkfactoryYard();
        x.object(false);
        x.piece(0, 0, 4, false);
        x.piece(0, 1, 4, false);
        x.piece(0, 2, 4, false);
        x.refer(0, 1, true);
        x.refer(0, 0, false);
        x.refer(1, 2, true);
        x.link();
        return x;
    }

    private static void runsBegin() {
        LinkfactoryYard none = new LinkfactoryYard();
        check.outside("P13 symbol -1", () -> none.run(-1));
        check.outside("P13 symbol 16", () -> none.run(16));
        check.badState("P13 no image", () -> none.run(0));
        LinkfactoryYard x = linked();
        check.badState("P13 it stands for nothing", () -> x.run(3));
        for (int i = 0; i < 4; i++) {
            check.due("P13 run " + i, x.run(i % 3), i);
            check.due("P16 it is there", x.stack(i, 0), i % 3);
        }
        check.badState("P13 there are 4", () -> x.run(0));
        check.outside("P13 the symbol before 4", () -> x.run(16));
        check.due("P12 runs", x.many(6), 4);
        check.due("P15 over", x.back(2), NONE);
        check.due("P15 over too", x.back(1), NONE);
        check.due("P12 two of them", x.many(6), 2);
        check.due("P13 the smallest number that is free", x.run(0), 1);
        check.due("P13 then the next", x.run(0), 2);
    }

    private static void runsCallAndComeBack() {
        LinkfactoryYard x = linked();
        x.run(1);
        x.run(0);
        check.due("P14 itself", x.call(1, 1), 0);
        check.due("P14 the first reference", x.call(1, 0), 1);
        check.due("P14 of that where it is then", x.call(1, 0), 2);
        check.outside("P14 no reference there", () -> x.call(1, 0));
        check.outside("P14 reference -1", () -> x.call(0, -1));
        check.outside("P14 reference 1", () -> x.call(0, 1));
        check.outside("P14 run 2", () -> x.call(2, 0));
        check.outside("P14 run 4", () -> x.call(4, 0));
        check.outside("P14 run -1", () -> x.call(-1, 0));
        int[] stack = {0, 0, 1, 2};
        for (int k = 0; k < 4; k++) {
            check.due("P16 place " + k, x.stack(1, k), stack[k]);
        }
        check.outside("P16 place 4", () -> x.stack(1, 4));
        check.outside("P16 place -1", () -> x.stack(1, -1));
        check.outside("P16 run 2", () -> x.stack(2, 0));
        check.outside("P16 run 4", () -> x.stack(4, 0));
        check.outside("P16 run -1", () -> x.stack(-1, 0));
        check.due("P9 one run has it twice", x.ofPiece(0, 6), 1);
        check.due("P9 two runs have it", x.ofPiece(1, 6), 2);
        check.due("P15 back in 1", x.back(1), 1);
        check.due("P15 back in 0", x.back(1), 0);
        check.due("P15 back in 0 again", x.back(1), 0);
        check.due("P15 over", x.back(1), NONE);
        check.outside("P15 it is over", () -> x.back(1));
        check.outside("P15 run -1", () -> x.back(-1));
        check.outside("P15 run 4", () -> x.back(4));
        check.outside("P16 it is over", () -> x.stack(1, 0));
        check.due("P16 the other stays", x.stack(0, 0), 1);
        check.due("P12 one is left", x.many(6), 1);
    }

    private static void fullStacks() {
        LinkfactoryYard x = linked();
        x.run(0);
        for (int i = 2; i <= 8; i++) {
            check.due("P14 deeper, " + i, x.call(0, 1), 0);
        }
        check.badState("P14 its stack has 8", () -> x.call(0, 1));
        check.outside("P14 the reference before 8", () -> x.call(0, 2));
        check.due("P16 the eighth", x.stack(0, 7), 0);
        check.outside("P16 no ninth", () -> x.stack(0, 8));
        x.run(1);
        check.due("P16 the next run's stack is its own", x.stack(1, 0), 1);
        check.due("P15 back", x.back(0), 0);
        check.due("P14 there is room again", x.call(0, 0), 1);
    }

    private static void gates() {
        LinkfactoryYard x = linked();
        x.gate(1, true);
        check.due("P13 without a patch it holds nobody", x.run(1), 0);
        x.run(0);
        check.due("P18 a patch that waits", x.patch(1, 2, 0, NONE), 0);
        check.badState("P13 the gate holds", () -> x.run(1));
        check.badState("P14 the gate holds", () -> x.call(1, 0));
        check.outside("P14 the reference before the gate", () -> x.call(1, 2));
        check.due("P14 another symbol", x.call(1, 1), 0);
        x.gate(1, false);
        check.due("P14 without the gate", x.call(1, 0), 1);
        x.gate(1, true);
        x.back(1);
        check.due("P15 now nobody runs in it", x.back(0), NONE);
        check.due("P20 done", x.ofPatch(0, 3), 1);
        check.due("P14 the gate holds nobody any more", x.call(1, 0), 3);
        check.due("P13 nor here", x.run(1), 0);
        check.due("P16 in the new piece", x.stack(0, 0), 3);
    }

    private static void means() {
        LinkfactoryYard x = linked();
        check.dueDouble("P17 without runs", x.meanStack(), 0.0);
        x.run(0);
        check.dueDouble("P17 one", x.meanStack(), 1.0);
        x.run(0);
        x.call(0, 1);
        check.dueDouble("P17 not cut", x.meanStack(), 1.5);
        x.run(1);
        check.dueDouble("P17 thirds", x.meanStack(), 4.0 / 3.0);
        x.back(0);
        x.back(0);
        check.dueDouble("P17 what is over does not count", x.meanStack(), 1.0);
        x.back(1);
        x.back(2);
        check.dueDouble("P17 all are over", x.meanStack(), 0.0);
    }
}
