/** "3. Runs" and promises 13 to 17, sentence by sentence: what is accepted at last, and what is refused at first. */
public final class RunEdgesTest {
    private static final int NONE = -1;
    private static final Check check = new Check("RunEdgesTest");

    public static void main(String[] args) {
        anImageIsNeeded();
        itMustStandForSomething();
        atMostFourRuns();
        theSmallestNumberThatIsFree();
        aGateThatHoldsRuns();
        aGateThatHoldsCalls();
        gatesWithoutAPatchThatWaits();
        runsByNumbers();
        referencesByNumbers();
        oneToEightInAStack();
        placesByNumbers();
        whatItIsInThen();
        overWithTheLast();
        eachComingBackIsLookedAt();
        callsGoToWhatStandsThen();
        means();
        check.end();
    }

    /** Symbols 0 to 2: piece 0 refers to itself, 1 and 2; piece 1 to 0; piece 2 to nothing. */
    private static LinkfactoryYard linked() {
        LinkfactoryYard x = new LinkfactoryYard();
        x.object(false);
        for (int symbol = 0; symbol < 3; symbol++) {
            x.piece(0, symbol, 4, false);
            x.refer(0, symbol, true);
        }
        x.refer(1, 0, false);
        x.link();
        return x;
    }

    private static LinkfactoryYard withRuns(int... symbols) {
        LinkfactoryYard x = linked();
        for (int symbol : symbols) {
            x.run(symbol);
        }
        return x;
    }

    private static LinkfactoryYard withStack(int height) {
        LinkfactoryYard x = withRuns(1, 0);
        for (int i = 1; i < height; i++) {
            x.call(1, 0);
        }
        return x;
    }

    // ---- run

    /** "if there is no IMAGE": not before link(), nor by one that has faults. */
    private static void anImageIsNeeded() {
        check.badState("P13 a new yard", Yards::fresh, x -> x.run(0));
        check.badState("P13 not linked", Yards::written, x -> x.run(0));
        check.badState("P13 linked with a fault", () -> linkedWithAFault(), x -> x.run(0));
        check.outside("P13 the symbol before the image", Yards::written, x -> x.run(16));
        check.due("P13 linked", Yards.linked().run(0), 0);
        check.due("P13 beside faults of now", Yards.faulty().run(0), 0);
    }

    private static LinkfactoryYard linkedWithAFault() {
        LinkfactoryYard x = Yards.written();
        x.piece(0, 0, 1, false);
        x.link();
        return x;
    }

    /** "it STANDS for nothing": neither what is archived and not in, nor what is newer than the image. */
    private static void itMustStandForSomething() {
        check.badState("P13 nothing has that symbol", Yards::linked, x -> x.run(15));
        check.badState("P13 it is archived, and not in", Yards::linked, x -> x.run(9));
        check.badState("P13 it is newer than the image", () -> withANewerPiece(), x -> x.run(7));
        LinkfactoryYard x = withANewerPiece();
        x.link();
        check.due("P13 now it stands", x.run(7), 0);
    }

    private static LinkfactoryYard withANewerPiece() {
        LinkfactoryYard x = Yards.linked();
        x.piece(1, 7, 1, false);
        return x;
    }

    /** "At most 4 RUNS, numbered from 0", "or there are 4". */
    private static void atMostFourRuns() {
        check.due("P13 the first", withRuns().run(0), 0);
        check.due("P13 the fourth", withRuns(0, 1, 2).run(0), 3);
        check.badState("P13 the fifth", () -> withRuns(0, 1, 2, 0), x -> x.run(0));
        check.badState("P13 the fifth, in another one", () -> withRuns(0, 0, 0, 0), x -> x.run(2));
        check.outside("P13 the symbol before 4", () -> withRuns(0, 0, 0, 0), x -> x.run(16));
        check.outside("P13 the symbol before 4", () -> withRuns(0, 0, 0, 0), x -> x.run(-1));
        for (int over = 0; over < 4; over++) {
            LinkfactoryYard x = withRuns(0, 0, 0, 0);
            x.back(over);
            check.due("P13 there is room for one", x.run(2), over);
            check.badState("P13 and for no more", () -> x.run(2));
        }
    }

    private static void theSmallestNumberThatIsFree() {
        LinkfactoryYard x = withRuns(0, 1, 2, 0);
        x.back(3);
        x.back(1);
        check.due("P13 1 before 3", x.run(2), 1);
        check.due("P16 it begins anew", x.stack(1, 0), 2);
        x.back(0);
        check.due("P13 0 before 3", x.run(1), 0);
        check.due("P13 then 3", x.run(1), 3);
        LinkfactoryYard y = withRuns(0);
        y.call(0, 0);
        y.back(0);
        check.due("P13 one that is not over keeps its number", y.run(0), 1);
    }

    // ---- gates

    /** A run in 0, and a patch that waits for it. */
    private static LinkfactoryYard waiting() {
        LinkfactoryYard x = withRuns(0);
        x.patch(0, 2, 0, NONE);
        return x;
    }

    private static LinkfactoryYard held() {
        LinkfactoryYard x = waiting();
        x.gate(0, true);
        return x;
    }

    /** "nobody can .. begin in it, as long as it HOLDS". */
    private static void aGateThatHoldsRuns() {
        check.due("P13 no gate", waiting().run(0), 1);
        check.badState("P13 a gate", () -> held(), x -> x.run(0));
        check.due("P13 another symbol", held().run(1), 1);
        LinkfactoryYard x = held();
        x.gate(1, true);
        check.due("P13 a gate without a patch", x.run(1), 1);
        x.gate(0, false);
        check.due("P13 the gate is taken away", x.run(0), 2);
    }

    /** "nobody can CALL it": whose symbol counts, not the symbol of where the run is. */
    private static void aGateThatHoldsCalls() {
        check.due("P14 no gate", waiting().call(0, 0), 0);
        check.badState("P14 a gate", () -> held(), x -> x.call(0, 0));
        check.outside("P14 the reference before the gate", () -> held(), x -> x.call(0, 3));
        check.due("P14 another symbol", held().call(0, 1), 1);
        LinkfactoryYard x = held();
        x.call(0, 1);
        check.badState("P14 back to it by another one", () -> x.call(0, 0));
        check.due("P15 coming back is not held", x.back(0), 0);
    }

    /** "it HOLDS as long as a PATCH for that SYMBOL WAITS": not one that is done, has failed, or is gone. */
    private static void gatesWithoutAPatchThatWaits() {
        LinkfactoryYard x = held();
        x.run(1);
        check.badState("P14 it holds", () -> x.call(1, 0));
        check.due("P15 over", x.back(0), NONE);
        check.due("P20 done", x.ofPatch(0, 3), 1);
        check.due("P14 it does not hold then", x.call(1, 0), 3);
        check.due("P13 nor here", x.run(0), 0);
        check.due("P19 though there is one", x.gate(0, true), true);
        LinkfactoryYard y = Yards.failed();
        y.gate(0, true);
        check.due("P20 failed", y.ofPatch(0, 3), 2);
        check.due("P13 it does not hold then", y.run(0), 0);
        LinkfactoryYard z = held();
        z.patch(0, 3, 0, NONE);
        z.back(0);
        check.due("P20 both are done", z.ofPatch(1, 3), 1);
        check.due("P13 so it does not hold", z.run(0), 0);
    }

    // ---- numbers

    /** "if there is no such RUN": one that is not, or is over. */
    private static void runsByNumbers() {
        for (int run : new int[] {-1, 2, 3, 4}) {
            check.outside("P14 run " + run, () -> withRuns(0, 0), x -> x.call(run, 0));
            check.outside("P15 run " + run, () -> withRuns(0, 0), x -> x.back(run));
            check.outside("P16 run " + run, () -> withRuns(0, 0), x -> x.stack(run, 0));
        }
        check.outside("P14 it is over", () -> withOneThatIsOver(), x -> x.call(1, 0));
        check.outside("P15 it is over", () -> withOneThatIsOver(), x -> x.back(1));
        check.outside("P16 it is over", () -> withOneThatIsOver(), x -> x.stack(1, 0));
        for (int run : new int[] {0, 2, 3}) {
            check.due("P14 run " + run, withOneThatIsOver().call(run, 1), 1);
            check.due("P15 run " + run, withOneThatIsOver().back(run), NONE);
            check.due("P16 run " + run, withOneThatIsOver().stack(run, 0), 0);
        }
    }

    private static LinkfactoryYard withOneThatIsOver() {
        LinkfactoryYard x = withRuns(0, 0, 0, 0);
        x.back(1);
        return x;
    }

    /** "or REFERENCE": of the piece in which it is. */
    private static void referencesByNumbers() {
        for (int k = 0; k < 3; k++) {
            check.due("P14 of three, " + k, withRuns(0).call(0, k), k);
        }
        check.due("P14 the only one", withRuns(1).call(0, 0), 0);
        check.outside("P14 behind three", () -> withRuns(0), x -> x.call(0, 3));
        check.outside("P14 behind the only one", () -> withRuns(1), x -> x.call(0, 1));
        check.outside("P14 of none", () -> withRuns(2), x -> x.call(0, 0));
        check.outside("P14 before the first", () -> withRuns(0), x -> x.call(0, -1));
        LinkfactoryYard x = withRuns(0);
        x.call(0, 1);
        check.outside("P14 where it is now there is one alone", () -> x.call(0, 1));
        check.due("P14 that one", x.call(0, 0), 0);
        check.due("P14 here there are three again", x.call(0, 2), 2);
        check.outside("P14 and here none", () -> x.call(0, 0));
    }

    // ---- stacks

    /** "each with a STACK of 1 to 8 PIECES", "if its STACK has 8". */
    private static void oneToEightInAStack() {
        for (int height = 1; height < 8; height++) {
            LinkfactoryYard x = withStack(height);
            check.due("P16 the last of " + height, x.stack(1, height - 1), 0);
            check.due("P14 behind " + height, x.call(1, 1), 1);
            check.due("P16 the last then", x.stack(1, height), 1);
        }
        for (int k = 0; k < 3; k++) {
            int reference = k;
            check.badState("P14 behind 8", () -> withStack(8), x -> x.call(1, reference));
        }
        check.outside("P14 the reference before 8", () -> withStack(8), x -> x.call(1, 3));
        check.outside("P14 the run before 8", () -> withStack(8), x -> x.call(2, 0));
        LinkfactoryYard x = withStack(8);
        check.due("P16 another run is as it was", x.stack(0, 0), 1);
        check.due("P14 and has room", x.call(0, 0), 0);
        x.back(1);
        check.due("P14 there is room again", x.call(1, 2), 2);
        check.outside("P14 no reference there, also with 8", () -> x.call(1, 0));
    }

    /** "if there is no such .. place". */
    private static void placesByNumbers() {
        for (int height = 1; height <= 8; height++) {
            int count = height;
            check.due("P16 the first of " + count, withStack(count).stack(1, 0), 0);
            check.due("P16 the last of " + count, withStack(count).stack(1, count - 1), 0);
            check.outside("P16 behind " + count, () -> withStack(count), x -> x.stack(1, count));
            check.outside("P16 before " + count, () -> withStack(count), x -> x.stack(1, -1));
        }
        LinkfactoryYard x = withStack(8);
        x.back(1);
        check.outside("P16 the eighth was taken away", () -> x.stack(1, 7));
        check.due("P16 the seventh not", x.stack(1, 6), 0);
    }

    /** "Returns the PIECE in which it is then". */
    private static void whatItIsInThen() {
        LinkfactoryYard x = withRuns(1);
        int[] calls = {0, 0, 1, 0, 0, 0, 2};
        int[] pieces = {0, 0, 1, 0, 0, 0, 2};
        for (int i = 0; i < 7; i++) {
            check.due("P14 call " + i, x.call(0, calls[i]), pieces[i]);
        }
        for (int i = 5; i >= 0; i--) {
            check.due("P15 back to " + i, x.back(0), pieces[i]);
        }
        check.due("P15 where it began", x.back(0), 1);
        check.due("P15 over", x.back(0), NONE);
    }

    /** "without any it is OVER, and its number is free again". */
    private static void overWithTheLast() {
        LinkfactoryYard x = withStack(2);
        check.due("P15 one is left", x.back(1), 0);
        check.due("P12 two runs", x.many(6), 2);
        check.due("P15 none is left", x.back(1), NONE);
        check.due("P12 one run", x.many(6), 1);
        check.outside("P15 it is over", () -> x.back(1));
        check.due("P13 its number", x.run(2), 1);
    }

    /** "each time that a RUN came BACK, this is done": a patch is done with the one that takes the last away. */
    private static void eachComingBackIsLookedAt() {
        LinkfactoryYard x = withRuns(0, 1);
        x.call(1, 0);
        x.call(1, 1);
        x.patch(0, 2, 0, NONE);
        x.back(0);
        check.due("P20 one has it yet", x.ofPatch(0, 3), 0);
        check.due("P15 back", x.back(1), 0);
        check.due("P20 still", x.ofPatch(0, 3), 0);
        check.due("P15 back in 1", x.back(1), 1);
        check.due("P20 none has it now", x.ofPatch(0, 3), 1);
    }

    private static void callsGoToWhatStandsThen() {
        LinkfactoryYard x = withRuns(0);
        x.patch(1, 2, 0, 2);
        check.due("P14 the new piece", x.call(0, 1), 3);
        check.due("P14 what that refers to", x.call(0, 0), 2);
        x.run(1);
        check.due("P13 in the new piece", x.stack(1, 0), 3);
        check.outside("P14 it has one reference", () -> x.call(1, 1));
        x.patch(2, 2, 0, NONE);
        check.due("P20 someone has it", x.ofPatch(1, 3), 0);
        check.due("P14 so the old one", x.call(1, 0), 2);
    }

    /** "the mean length of the STACKS, not cut; 0 without RUNS". */
    private static void means() {
        check.dueDouble("P17 without an image", Yards.fresh().meanStack(), 0.0);
        check.dueDouble("P17 without runs", withRuns().meanStack(), 0.0);
        check.dueDouble("P17 the shortest", withRuns(0, 1, 2, 0).meanStack(), 1.0);
        check.dueDouble("P17 the longest", Yards.full().meanStack(), 8.0);
        check.dueDouble("P17 halves", withStack(2).meanStack(), 3.0 / 2.0);
        check.dueDouble("P17 halves", withStack(8).meanStack(), 9.0 / 2.0);
        LinkfactoryYard x = withStack(3);
        x.run(2);
        check.dueDouble("P17 thirds", x.meanStack(), 5.0 / 3.0);
        x.run(2);
        check.dueDouble("P17 quarters", x.meanStack(), 6.0 / 4.0);
        x.call(1, 0);
        check.dueDouble("P17 quarters", x.meanStack(), 7.0 / 4.0);
        x.back(0);
        check.dueDouble("P17 six among three", x.meanStack(), 2.0);
        check.dueDouble("P17 one that is over does not count", withOneThatIsOver().meanStack(), 1.0);
    }
}
