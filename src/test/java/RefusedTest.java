import java.util.ArrayList;
import java.util.List;
import java.util.function.Consumer;

/** Calls that are refused in each state of a yard: which exception it is, and that nothing has changed. */
public final class RefusedTest {
    private static final int NONE = -1;
    private static final Check check = new Check("RefusedTest");
    private static final Class<?> OUTSIDE = IndexOutOfBoundsException.class;
    private static final Class<?> ARGUMENT = IllegalArgumentException.class;
    private static final Class<?> STATE = IllegalStateException.class;

    private record Refusal(String name, Class<?> type, Consumer<LinkfactoryYard> call) { }

    private static final List<Refusal> always = new ArrayList<>();

    public static void main(String[] args) {
        numbersThatNeverAre();
        valuesThatNeverAre();
        theFirstOneNamedIsThrown();
        refuseAll("a new yard", Yards::fresh, always);
        refuseAll("a yard that is not linked", Yards::written, always);
        refuseAll("an image", Yards::linked, always);
        refuseAll("an image, and faults", Yards::faulty, always);
        refuseAll("runs and patches", Yards::running, always);
        refuseAll("a full yard", Yards::full, always);
        refuseAll("a group that failed", Yards::failed, always);
        refuseAll("a new yard", Yards::fresh, inANewYard());
        refuseAll("a yard that is not linked", Yards::written, withoutAnImage());
        refuseAll("a full yard", Yards::full, inAFullYard());
        check.end();
    }

    private static void refuseAll(String state, Yards.Build build, List<Refusal> refusals) {
        for (Refusal refusal : refusals) {
            check.refused(state + ": " + refusal.name, refusal.type, build, refusal.call);
        }
    }

    private static void add(List<Refusal> to, Class<?> type, String name, Consumer<LinkfactoryYard> call) {
        to.add(new Refusal(name, type, call));
    }

    /** Numbers that are no SYMBOL, RUN, WORD ... in any yard, on either side. */
    private static int[] offNumbers(int bound) {
        return new int[] {Integer.MIN_VALUE, -2, -1, bound, bound + 1, Integer.MAX_VALUE};
    }

    private static int[] offValues(int first, int last) {
        return new int[] {Integer.MIN_VALUE, first - 1, last + 1, Integer.MAX_VALUE};
    }

    private static void numbersThatNeverAre() {
        for (int i : offNumbers(8)) {
            add(always, OUTSIDE, "P3 piece of object " + i, x -> x.piece(i, 0, 1, false));
            add(always, OUTSIDE, "P20 patch " + i, x -> x.ofPatch(i, 0));
            add(always, OUTSIDE, "P21 patch " + i, x -> x.backsFor(i));
            add(always, OUTSIDE, "P23 object " + i, x -> x.faultsWithout(i));
            add(always, OUTSIDE, "P16 place " + i, x -> x.stack(0, i));
        }
        for (int i : offNumbers(16)) {
            add(always, OUTSIDE, "P3 piece with symbol " + i, x -> x.piece(0, i, 1, false));
            add(always, OUTSIDE, "P4 reference to symbol " + i, x -> x.refer(0, i, true));
            add(always, OUTSIDE, "P8 symbol " + i, x -> x.ofSymbol(i, 0));
            add(always, OUTSIDE, "P13 symbol " + i, x -> x.run(i));
            add(always, OUTSIDE, "P18 symbol " + i, x -> x.patch(i, 1, 0, NONE));
            add(always, OUTSIDE, "P19 symbol " + i + " on", x -> x.gate(i, true));
            add(always, OUTSIDE, "P19 symbol " + i + " off", x -> x.gate(i, false));
            if (i != NONE) {
                add(always, OUTSIDE, "P18 to symbol " + i, x -> x.patch(0, 1, 0, i));
            }
        }
        for (int i : offNumbers(40)) {
            add(always, OUTSIDE, "P4 piece " + i, x -> x.refer(i, 0, true));
            add(always, OUTSIDE, "P9 piece " + i, x -> x.ofPiece(i, 0));
            add(always, OUTSIDE, "P10 piece " + i, x -> x.steps(i, 0));
        }
        for (int i : offNumbers(4)) {
            add(always, OUTSIDE, "P14 run " + i, x -> x.call(i, 0));
            add(always, OUTSIDE, "P15 run " + i, x -> x.back(i));
            add(always, OUTSIDE, "P16 run " + i, x -> x.stack(i, 0));
        }
        for (int i : offNumbers(3)) {
            add(always, OUTSIDE, "P10 reference " + i, x -> x.steps(0, i));
            add(always, OUTSIDE, "P14 reference " + i, x -> x.call(0, i));
        }
        for (int i : offNumbers(200)) {
            add(always, OUTSIDE, "P11 word " + i, x -> x.map(i, 0));
        }
        for (int i : offNumbers(17)) {
            add(always, OUTSIDE, "P7 fault " + i, x -> x.fault(i, 0));
        }
    }

    private static void valuesThatNeverAre() {
        for (int i : offValues(5, 100)) {
            add(always, ARGUMENT, "P5 reach " + i, x -> x.reach(i));
            add(always, ARGUMENT, "P22 reach " + i, x -> x.islandsWith(i));
        }
        for (int i : offValues(1, 200)) {
            add(always, ARGUMENT, "P24 size " + i, x -> x.place(i));
        }
        for (int i : offValues(1, 20)) {
            add(always, ARGUMENT, "P18 size " + i, x -> x.patch(0, i, 0, NONE));
        }
        for (int i : offValues(0, 3)) {
            add(always, ARGUMENT, "P18 group " + i, x -> x.patch(0, 1, i, NONE));
            add(always, ARGUMENT, "P8 what " + i, x -> x.ofSymbol(15, i));
        }
        for (int i : offValues(0, 1)) {
            add(always, ARGUMENT, "P11 what " + i, x -> x.map(199, i));
        }
        for (int i : offValues(0, 9)) {
            add(always, ARGUMENT, "P12 what " + i, x -> x.many(i));
        }
    }

    /** Both are wrong in each of these: the number, and the value. */
    private static void theFirstOneNamedIsThrown() {
        add(always, OUTSIDE, "P3 object before size", x -> x.piece(8, 0, 0, false));
        add(always, OUTSIDE, "P3 symbol before size", x -> x.piece(0, 16, 21, false));
        add(always, OUTSIDE, "P7 fault before what", x -> x.fault(17, 2));
        add(always, OUTSIDE, "P8 symbol before what", x -> x.ofSymbol(16, 4));
        add(always, OUTSIDE, "P9 piece before what", x -> x.ofPiece(40, 7));
        add(always, OUTSIDE, "P11 word before what", x -> x.map(200, 2));
        add(always, OUTSIDE, "P18 symbol before size", x -> x.patch(16, 0, 0, NONE));
        add(always, OUTSIDE, "P18 symbol before group", x -> x.patch(NONE, 1, 4, NONE));
        add(always, OUTSIDE, "P18 to before size", x -> x.patch(0, 21, 0, 16));
        add(always, OUTSIDE, "P18 to before group", x -> x.patch(0, 1, NONE, -2));
        add(always, OUTSIDE, "P20 patch before what", x -> x.ofPatch(8, 4));
    }

    /** There is nothing in it, so that each number is outside. */
    private static List<Refusal> inANewYard() {
        List<Refusal> all = new ArrayList<>(withoutAnImage());
        add(all, OUTSIDE, "P3 no object", x -> x.piece(0, 0, 1, false));
        add(all, OUTSIDE, "P3 no object before size", x -> x.piece(0, 0, 0, false));
        add(all, OUTSIDE, "P4 no piece", x -> x.refer(0, 0, false));
        add(all, OUTSIDE, "P7 no fault", x -> x.fault(0, 0));
        add(all, OUTSIDE, "P7 no fault before what", x -> x.fault(0, 2));
        add(all, OUTSIDE, "P9 no piece", x -> x.ofPiece(0, 0));
        add(all, OUTSIDE, "P9 no piece before what", x -> x.ofPiece(0, 7));
        add(all, OUTSIDE, "P23 no object", x -> x.faultsWithout(0));
        return all;
    }

    private static List<Refusal> withoutAnImage() {
        List<Refusal> all = new ArrayList<>();
        add(all, OUTSIDE, "P10 nothing is laid", x -> x.steps(0, 0));
        add(all, STATE, "P13 no image", x -> x.run(0));
        add(all, OUTSIDE, "P14 no run", x -> x.call(0, 0));
        add(all, OUTSIDE, "P15 no run", x -> x.back(0));
        add(all, OUTSIDE, "P16 no run", x -> x.stack(0, 0));
        add(all, STATE, "P18 no image", x -> x.patch(0, 1, 0, NONE));
        add(all, STATE, "P18 no image, to a symbol", x -> x.patch(0, 20, 3, 15));
        add(all, OUTSIDE, "P20 no patch", x -> x.ofPatch(0, 0));
        add(all, OUTSIDE, "P20 no patch before what", x -> x.ofPatch(0, 4));
        add(all, OUTSIDE, "P21 no patch", x -> x.backsFor(0));
        return all;
    }

    /** There is no room for anything, so that what could be named first comes first. */
    private static List<Refusal> inAFullYard() {
        List<Refusal> all = new ArrayList<>();
        add(all, STATE, "P2 a ninth plain object", x -> x.object(false));
        add(all, STATE, "P2 a ninth archived object", x -> x.object(true));
        add(all, STATE, "P3 a 41st piece", x -> x.piece(7, 15, 20, false));
        add(all, ARGUMENT, "P3 size before 40", x -> x.piece(7, 15, 21, false));
        add(all, ARGUMENT, "P3 size 0 before 40", x -> x.piece(0, 0, 0, true));
        add(all, STATE, "P4 a fourth reference", x -> x.refer(31, 15, true));
        add(all, STATE, "P4 of a patch", x -> x.refer(39, 0, false));
        add(all, STATE, "P6 four runs", x -> x.link());
        add(all, OUTSIDE, "P7 no fault", x -> x.fault(0, 0));
        add(all, ARGUMENT, "P9 what 7", x -> x.ofPiece(39, 7));
        add(all, ARGUMENT, "P9 what -1", x -> x.ofPiece(0, NONE));
        add(all, OUTSIDE, "P10 a patch's piece that is not laid", x -> x.steps(39, 0));
        add(all, STATE, "P13 four runs, and a gate", x -> x.run(0));
        add(all, STATE, "P13 four runs", x -> x.run(1));
        add(all, STATE, "P14 its stack has 8, and a gate", x -> x.call(3, 0));
        add(all, STATE, "P14 its stack has 8", x -> x.call(3, 1));
        add(all, OUTSIDE, "P14 the reference before 8", x -> x.call(3, 3));
        add(all, STATE, "P18 eight patches, 40 pieces", x -> x.patch(1, 1, 0, NONE));
        add(all, ARGUMENT, "P20 what 4", x -> x.ofPatch(7, 4));
        add(all, ARGUMENT, "P20 what -1", x -> x.ofPatch(0, NONE));
        return all;
    }
}
