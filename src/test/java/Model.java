import java.util.ArrayList;
import java.util.Collection;
import java.util.HashMap;
import java.util.HashSet;
import java.util.List;
import java.util.Map;
import java.util.Set;
import java.util.TreeSet;

/** The document once more, written for its words and not for its speed: what the class answers is compared with this. */
final class Model {
    private static final int NONE = -1;

    private record Reference(int symbol, boolean near) { }

    private record Fault(int code, int symbol) { }

    private static final class Piece {
        int number;
        int object = NONE;
        int symbol;
        int size;
        boolean strong;
        final List<Reference> references = new ArrayList<>();
    }

    private static final class Patch {
        Piece piece;
        int group;
        int state;
    }

    /** What is at a word: nothing stands there where the map of an image has no such one. */
    private record Thing(int kind, int what) { }

    private static final class Image {
        int reach;
        List<Integer> in = new ArrayList<>();
        Map<Integer, Piece> stands = new HashMap<>();
        Map<Integer, Thing> words = new HashMap<>();
        Map<Piece, Integer> places = new HashMap<>();
        Map<List<Integer>, Integer> islands = new HashMap<>();
        Map<Integer, Integer> jumps = new HashMap<>();
        int length;

        Image copy() {
            Image other = new Image();
            other.reach = reach;
            other.in = in;
            other.stands = new HashMap<>(stands);
            other.words = new HashMap<>(words);
            other.places = new HashMap<>(places);
            other.islands = islands;
            other.jumps = new HashMap<>(jumps);
            other.length = length;
            return other;
        }

        boolean reaches(Piece piece, Integer word) {
            return word != null && Math.abs(places.get(piece) - word) <= reach;
        }

        boolean reachesSymbol(Piece piece, int symbol) {
            return reaches(piece, places.get(stands.get(symbol)));
        }

        boolean reachesIsland(Piece piece, int symbol) {
            return reaches(piece, islands.get(List.of(piece.object, symbol)));
        }

        int room(int size) {
            for (int first = 0; first + size <= 200; first++) {
                boolean free = true;
                for (int word = first; word < first + size; word++) {
                    free &= !words.containsKey(word);
                }
                if (free) {
                    return first;
                }
            }
            return NONE;
        }

        boolean done(Patch patch) {
            Piece piece = patch.piece;
            int first = room(piece.size);
            if (first == NONE) {
                return false;
            }
            for (int word = first; word < first + piece.size; word++) {
                words.put(word, new Thing(1, piece.number));
            }
            Piece before = stands.put(piece.symbol, piece);
            places.put(piece, first);
            int old = places.remove(before);
            for (int word = old; word < old + before.size; word++) {
                words.remove(word);
            }
            boolean lost = false;
            for (Piece laid : places.keySet()) {
                for (Reference reference : laid.references) {
                    lost |= reference.near && reference.symbol == piece.symbol
                            && !reachesSymbol(laid, piece.symbol) && !reachesIsland(laid, piece.symbol);
                }
            }
            if (lost && !jumps.containsKey(piece.symbol)) {
                words.put(old, new Thing(3, piece.symbol));
                jumps.put(piece.symbol, old);
            }
            return true;
        }
    }

    final List<Boolean> objects = new ArrayList<>();
    private final List<Piece> pieces = new ArrayList<>();
    private final Map<Integer, List<Piece>> runs = new HashMap<>();
    private List<Patch> patches = new ArrayList<>();
    private final Set<Integer> gates = new HashSet<>();
    private Image image = null;
    private int reach = 40;
    private List<Fault> faults = new ArrayList<>();

    // ---- linking

    private Image linked(int itsReach, int without) {
        faults = new ArrayList<>();
        Image made = new Image();
        made.reach = itsReach;
        takeIn(made, without);
        for (int symbol = 0; symbol < 16; symbol++) {
            List<Piece> strong = new ArrayList<>();
            List<Piece> weak = new ArrayList<>();
            for (Piece piece : ordered(made)) {
                if (piece.symbol == symbol) {
                    (piece.strong ? strong : weak).add(piece);
                }
            }
            if (strong.size() > 1) {
                faults.add(new Fault(1, symbol));
            }
            strong.addAll(weak);
            if (!strong.isEmpty()) {
                made.stands.put(symbol, strong.get(0));
            }
        }
        for (int symbol : new TreeSet<>(referred(made.in))) {
            if (!made.stands.containsKey(symbol)) {
                faults.add(new Fault(2, symbol));
            }
        }
        if (faults.isEmpty()) {
            layWithIslands(made);
        }
        return made;
    }

    private void takeIn(Image made, int without) {
        for (int object = 0; object < objects.size(); object++) {
            if (!objects.get(object) && object != without) {
                made.in.add(object);
            }
        }
        boolean grows = true;
        while (grows) {
            grows = false;
            Set<Integer> missing = referred(made.in);
            missing.removeAll(had(made.in));
            for (int object = 0; object < objects.size() && !grows; object++) {
                Set<Integer> its = had(List.of(object));
                its.retainAll(missing);
                if (objects.get(object) && object != without && !made.in.contains(object) && !its.isEmpty()) {
                    made.in.add(object);
                    grows = true;
                }
            }
        }
    }

    private Set<Integer> had(Collection<Integer> some) {
        Set<Integer> symbols = new HashSet<>();
        for (Piece piece : pieces) {
            if (some.contains(piece.object)) {
                symbols.add(piece.symbol);
            }
        }
        return symbols;
    }

    private Set<Integer> referred(Collection<Integer> some) {
        Set<Integer> symbols = new HashSet<>();
        for (Piece piece : pieces) {
            for (Reference reference : piece.references) {
                if (some.contains(piece.object)) {
                    symbols.add(reference.symbol);
                }
            }
        }
        return symbols;
    }

    private List<Piece> ordered(Image made) {
        List<Piece> all = new ArrayList<>();
        for (int object : made.in) {
            for (Piece piece : pieces) {
                if (piece.object == object) {
                    all.add(piece);
                }
            }
        }
        return all;
    }

    private void layWithIslands(Image made) {
        List<List<Integer>> islands = new ArrayList<>();
        boolean again = true;
        while (again) {
            lay(made, islands);
            List<Integer> next = firstMissing(made);
            again = next != null;
            if (again) {
                islands.add(next);
            }
        }
        Set<Integer> lost = new TreeSet<>();
        for (Piece piece : ordered(made)) {
            for (Reference reference : piece.references) {
                if (reference.near && !made.reachesSymbol(piece, reference.symbol)
                        && !made.reachesIsland(piece, reference.symbol)) {
                    lost.add(reference.symbol);
                }
            }
        }
        for (int symbol : lost) {
            faults.add(new Fault(3, symbol));
        }
        if (made.length > 200) {
            faults.add(new Fault(4, NONE));
        }
    }

    private List<Integer> firstMissing(Image made) {
        for (Piece piece : ordered(made)) {
            for (Reference reference : piece.references) {
                List<Integer> key = List.of(piece.object, reference.symbol);
                if (reference.near && !made.reachesSymbol(piece, reference.symbol) && !made.islands.containsKey(key)) {
                    return key;
                }
            }
        }
        return null;
    }

    private void lay(Image made, List<List<Integer>> islands) {
        made.words.clear();
        made.length = 0;
        for (int object : made.in) {
            for (Piece piece : pieces) {
                if (piece.object == object) {
                    made.places.put(piece, made.length);
                    for (int i = 0; i < piece.size; i++) {
                        made.words.put(made.length++, new Thing(1, piece.number));
                    }
                }
            }
            for (List<Integer> key : islands) {
                if (key.get(0) == object) {
                    made.islands.put(key, made.length);
                    made.words.put(made.length++, new Thing(2, key.get(1)));
                }
            }
        }
    }

    // ---- patches

    private boolean waits(Patch patch) {
        return patch.state == 0;
    }

    private boolean clear(Patch patch) {
        for (Patch other : patches) {
            if (other == patch) {
                break;
            }
            if (waits(other) && other.piece.symbol == patch.piece.symbol) {
                return false;
            }
        }
        for (List<Piece> stack : runs.values()) {
            if (stack.contains(image.stands.get(patch.piece.symbol))) {
                return false;
            }
        }
        return waits(patch) && image.room(patch.piece.size) != NONE;
    }

    private List<Patch> together(Patch patch) {
        List<Patch> all = new ArrayList<>();
        for (Patch other : patches) {
            if (other == patch || (patch.group > 0 && other.group == patch.group && waits(other))) {
                all.add(other);
            }
        }
        return all;
    }

    private boolean doOne() {
        for (Patch patch : patches) {
            if (!waits(patch)) {
                continue;
            }
            List<Patch> all = together(patch);
            boolean can = true;
            for (Patch one : all) {
                can &= clear(one);
            }
            if (can) {
                doAll(all);
                return true;
            }
        }
        return false;
    }

    private void doAll(List<Patch> all) {
        Image before = image.copy();
        boolean fits = true;
        for (Patch one : all) {
            fits = fits && image.done(one);
        }
        for (Patch one : all) {
            one.state = fits ? 1 : 2;
        }
        if (!fits) {
            image = before;
        }
    }

    private void doWhatCanBeDone() {
        boolean again = true;
        while (again) {
            again = doOne();
        }
    }

    private boolean holds(int symbol) {
        return gates.contains(symbol) && ofSymbol(symbol, 3) > 0;
    }

    // ---- the calls

    private static void inside(int number, int count) {
        if (number < 0 || number >= count) {
            throw new IndexOutOfBoundsException();
        }
    }

    private static void argument(int number, int least, int most) {
        if (number < least || number > most) {
            throw new IllegalArgumentException();
        }
    }

    private static void state(boolean right) {
        if (!right) {
            throw new IllegalStateException();
        }
    }

    int object(boolean isArchived) {
        state(objects.size() < 8);
        objects.add(isArchived);
        return objects.size() - 1;
    }

    int piece(int object, int symbol, int size, boolean isWeak) {
        inside(object, objects.size());
        inside(symbol, 16);
        argument(size, 1, 20);
        state(pieces.size() < 40);
        return newPiece(object, symbol, size, !isWeak).number;
    }

    private Piece newPiece(int object, int symbol, int size, boolean strong) {
        Piece piece = new Piece();
        piece.number = pieces.size();
        piece.object = object;
        piece.symbol = symbol;
        piece.size = size;
        piece.strong = strong;
        pieces.add(piece);
        return piece;
    }

    private boolean laid(Piece piece) {
        return image != null && image.places.containsKey(piece);
    }

    int refer(int number, int symbol, boolean isNear) {
        inside(number, pieces.size());
        inside(symbol, 16);
        Piece piece = pieces.get(number);
        state(piece.references.size() < 3 && piece.object != NONE && !laid(piece));
        piece.references.add(new Reference(symbol, isNear));
        return piece.references.size();
    }

    int reach(int next) {
        argument(next, 5, 100);
        int before = reach;
        reach = next;
        return before;
    }

    int link() {
        state(runs.isEmpty());
        Image made = linked(reach, NONE);
        if (faults.isEmpty()) {
            image = made;
            patches = new ArrayList<>();
        }
        return faults.size();
    }

    int fault(int k, int what) {
        linked(reach, NONE);
        inside(k, faults.size());
        argument(what, 0, 1);
        return what == 0 ? faults.get(k).code : faults.get(k).symbol;
    }

    int ofSymbol(int symbol, int what) {
        inside(symbol, 16);
        argument(what, 0, 3);
        if (what == 3) {
            int waiting = 0;
            for (Patch patch : patches) {
                waiting += waits(patch) && patch.piece.symbol == symbol ? 1 : 0;
            }
            return waiting;
        }
        Piece piece = image == null ? null : image.stands.get(symbol);
        if (what == 2) {
            return image == null ? NONE : image.jumps.getOrDefault(symbol, NONE);
        }
        return piece == null ? NONE : what == 0 ? piece.number : image.places.get(piece);
    }

    int ofPiece(int number, int what) {
        inside(number, pieces.size());
        argument(what, 0, 6);
        Piece piece = pieces.get(number);
        int inStacks = 0;
        for (List<Piece> stack : runs.values()) {
            inStacks += stack.contains(piece) ? 1 : 0;
        }
        int place = laid(piece) ? image.places.get(piece) : NONE;
        int[] answers = {piece.object, piece.symbol, piece.size, piece.strong ? 1 : 0, piece.references.size(),
            place, inStacks};
        return answers[what];
    }

    int steps(int number, int k) {
        inside(number, pieces.size());
        Piece piece = pieces.get(number);
        if (!laid(piece)) {
            throw new IndexOutOfBoundsException();
        }
        inside(k, piece.references.size());
        Reference reference = piece.references.get(k);
        if (!reference.near || image.reachesSymbol(piece, reference.symbol)) {
            return 1;
        }
        if (!image.reachesIsland(piece, reference.symbol) && !image.jumps.containsKey(reference.symbol)) {
            throw new IllegalStateException("the document tells no steps");
        }
        return 2;
    }

    int map(int word, int what) {
        inside(word, 200);
        argument(what, 0, 1);
        Thing thing = image == null ? null : image.words.get(word);
        return thing == null ? (what == 0 ? 0 : NONE) : what == 0 ? thing.kind : thing.what;
    }

    int many(int what) {
        argument(what, 0, 9);
        int[] kinds = new int[4];
        for (int word = 0; word < 200; word++) {
            kinds[map(word, 0)]++;
        }
        int waiting = 0;
        for (int symbol = 0; symbol < 16; symbol++) {
            waiting += ofSymbol(symbol, 3);
        }
        int[] answers = {objects.size(), pieces.size(), image == null ? 0 : image.in.size(), 200 - kinds[0], kinds[2],
            kinds[3], runs.size(), patches.size(), waiting, image == null ? 0 : 1};
        return answers[what];
    }

    int run(int symbol) {
        inside(symbol, 16);
        state(image != null && image.stands.containsKey(symbol) && !holds(symbol) && runs.size() < 4);
        int number = 0;
        while (runs.containsKey(number)) {
            number++;
        }
        runs.put(number, new ArrayList<>(List.of(image.stands.get(symbol))));
        return number;
    }

    private List<Piece> stackOf(int run) {
        if (!runs.containsKey(run)) {
            throw new IndexOutOfBoundsException();
        }
        return runs.get(run);
    }

    int call(int run, int k) {
        List<Piece> stack = stackOf(run);
        Piece where = stack.get(stack.size() - 1);
        inside(k, where.references.size());
        int symbol = where.references.get(k).symbol;
        state(stack.size() < 8 && !holds(symbol));
        stack.add(image.stands.get(symbol));
        return image.stands.get(symbol).number;
    }

    int back(int run) {
        List<Piece> stack = stackOf(run);
        stack.remove(stack.size() - 1);
        int where = stack.isEmpty() ? NONE : stack.get(stack.size() - 1).number;
        if (stack.isEmpty()) {
            runs.remove(run);
        }
        doWhatCanBeDone();
        return where;
    }

    int stack(int run, int k) {
        List<Piece> stack = stackOf(run);
        inside(k, stack.size());
        return stack.get(k).number;
    }

    double meanStack() {
        double sum = 0;
        for (List<Piece> stack : runs.values()) {
            sum += stack.size();
        }
        return runs.isEmpty() ? 0 : sum / runs.size();
    }

    int patch(int symbol, int size, int group, int to) {
        inside(symbol, 16);
        inside(to == NONE ? 0 : to, 16);
        argument(size, 1, 20);
        argument(group, 0, 3);
        state(image != null && image.stands.containsKey(symbol) && (to == NONE || image.stands.containsKey(to)));
        state(patches.size() < 8 && pieces.size() < 40);
        Patch patch = new Patch();
        patch.piece = newPiece(NONE, symbol, size, true);
        patch.group = group;
        if (to != NONE) {
            patch.piece.references.add(new Reference(to, false));
        }
        patches.add(patch);
        doWhatCanBeDone();
        return patches.size() - 1;
    }

    int gate(int symbol, boolean isOn) {
        inside(symbol, 16);
        boolean was = isOn ? !gates.add(symbol) : gates.remove(symbol);
        return was ? 1 : 0;
    }

    int ofPatch(int number, int what) {
        inside(number, patches.size());
        argument(what, 0, 3);
        Patch patch = patches.get(number);
        int[] answers = {patch.piece.symbol, patch.piece.number, patch.group, patch.state};
        return answers[what];
    }

    int backsFor(int number) {
        inside(number, patches.size());
        if (!waits(patches.get(number))) {
            throw new IndexOutOfBoundsException();
        }
        Piece piece = image.stands.get(patches.get(number).piece.symbol);
        int backs = 0;
        for (List<Piece> stack : runs.values()) {
            List<Piece> left = new ArrayList<>(stack);
            while (left.contains(piece)) {
                left.remove(left.size() - 1);
                backs++;
            }
        }
        return backs;
    }

    int islandsWith(int itsReach) {
        argument(itsReach, 5, 100);
        return linked(itsReach, NONE).islands.size();
    }

    int faultsWithout(int object) {
        inside(object, objects.size());
        linked(reach, object);
        return faults.size();
    }

    int place(int size) {
        argument(size, 1, 200);
        return image == null ? 0 : image.room(size);
    }

    long digest() {
        List<Integer> all = new ArrayList<>();
        for (int what = 0; what <= 9; what++) {
            all.add(many(what));
        }
        for (int i = 0; i < 16 * 4; i++) {
            all.add(ofSymbol(i / 4, i % 4));
        }
        for (Piece piece : pieces) {
            for (int what = 0; what <= 6; what++) {
                all.add(ofPiece(piece.number, what));
            }
            for (int k = 0; laid(piece) && k < piece.references.size(); k++) {
                all.add(steps(piece.number, k));
            }
        }
        for (int i = 0; i < 200 * 2; i++) {
            all.add(map(i / 2, i % 2));
        }
        for (int run : new TreeSet<>(runs.keySet())) {
            all.add(run);
            for (Piece piece : runs.get(run)) {
                all.add(piece.number);
            }
        }
        for (int i = 0; i < patches.size() * 4; i++) {
            all.add(ofPatch(i / 4, i % 4));
        }
        linked(reach, NONE);
        for (Fault fault : faults) {
            all.add(fault.code);
            all.add(fault.symbol);
        }
        all.add(islandsWith(5));
        long d = 5737;
        for (int v : all) {
            d = d * 31 + v;
        }
        return d;
    }
}
