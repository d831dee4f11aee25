/** A linker, with what runs, and what is patched as it runs. */
public final class LinkfactoryYard {
    private static final int NONE = -1;

    private static final int SYMBOLS = 16;
    private static final int MOST_OBJECTS = 8;
    private static final int MOST_PIECES = 40;
    private static final int MOST_REFERENCES = 3;
    private static final int MOST_ISLANDS = MOST_OBJECTS * SYMBOLS;
    private static final int MOST_RUNS = 4;
    private static final int MOST_IN_STACK = 8;
    private static final int MOST_PATCHES = 8;
    private static final int LAST_GROUP = 3;
    private static final int LARGEST_SIZE = 20;
    private static final int WORDS = 200;

    private static final int SMALLEST_REACH = 5;
    private static final int LARGEST_REACH = 100;
    private static final int FIRST_REACH = 40;

    private static final int FREE = 0;
    private static final int OF_PIECE = 1;
    private static final int ISLAND = 2;
    private static final int JUMP = 3;

    private static final int DOUBLE_SYMBOL = 1;
    private static final int MISSING_SYMBOL = 2;
    private static final int OUT_OF_REACH = 3;
    private static final int TOO_LONG = 4;

    private static final int WAITS = 0;
    private static final int DONE = 1;
    private static final int FAILED = 2;

    private static final int MANY_ANSWERS = 10;
    private static final int SYMBOL_ANSWERS = 4;
    private static final int PIECE_ANSWERS = 7;
    private static final int PATCH_ANSWERS = 4;
    private static final int PAIR_ANSWERS = 2;

    private static final long DIGEST_START = 5737L;
    private static final long DIGEST_FACTOR = 31L;

    private final Stock stock = new Stock();
    private final Linker linker = new Linker();
    private final Image image = new Image();
    private final Image spare = new Image();
    private final Runs runs = new Runs();
    private final Patches patches = new Patches();
    private final Row gates = new Row(SYMBOLS, 0);
    private int reachFromNow = FIRST_REACH;

    public LinkfactoryYard() {
    }

    // ---- objects

    public int object(boolean isArchived) throws IllegalStateException {
        if (stock.objects >= MOST_OBJECTS) {
            throw new IllegalStateException("there are 8 objects");
        }
        return stock.addObject(isArchived);
    }

    public int piece(int object, int symbol, int size, boolean isWeak)
            throws IndexOutOfBoundsException, IllegalArgumentException, IllegalStateException {
        if (!isWithin(object, stock.objects) || !isSymbol(symbol)) {
            throw new IndexOutOfBoundsException("no such object, or symbol");
        }
        if (!isPieceSize(size)) {
            throw new IllegalArgumentException("size is not 1 to 20");
        }
        if (stock.pieces >= MOST_PIECES) {
            throw new IllegalStateException("there were 40 pieces");
        }
        return stock.addPiece(object, symbol, size, !isWeak);
    }

    public int refer(int piece, int symbol, boolean isNear) throws IndexOutOfBoundsException, IllegalStateException {
        if (!isWithin(piece, stock.pieces) || !isSymbol(symbol)) {
            throw new IndexOutOfBoundsException("no such piece, or symbol");
        }
        if (stock.references.get(piece) >= MOST_REFERENCES || stock.isOfPatch(piece) || image.layout.isLaid(piece)) {
            throw new IllegalStateException("the piece has 3 references, is of a patch, or is laid");
        }
        return stock.addReference(piece, symbol, isNear);
    }

    public int reach(int reach) throws IllegalArgumentException {
        if (!isReach(reach)) {
            throw new IllegalArgumentException("reach is not 5 to 100");
        }
        int before = reachFromNow;
        reachFromNow = reach;
        return before;
    }

    // ---- linking

    public int link() throws IllegalStateException {
        if (runs.count() > 0) {
            throw new IllegalStateException("there is a run");
        }
        linker.attempt(stock, reachFromNow, NONE);
        if (linker.faults == 0) {
            image.begin(stock, linker.layout);
            patches.forget();
        }
        return linker.faults;
    }

    public int fault(int k, int what) throws IndexOutOfBoundsException, IllegalArgumentException {
        linker.attempt(stock, reachFromNow, NONE);
        if (!isWithin(k, linker.faults)) {
            throw new IndexOutOfBoundsException("no such fault");
        }
        if (!isWithin(what, PAIR_ANSWERS)) {
            throw new IllegalArgumentException("what is not 0 to 1");
        }
        return tellFault(k, what);
    }

    public int ofSymbol(int symbol, int what) throws IndexOutOfBoundsException, IllegalArgumentException {
        if (!isSymbol(symbol)) {
            throw new IndexOutOfBoundsException("no such symbol");
        }
        if (!isWithin(what, SYMBOL_ANSWERS)) {
            throw new IllegalArgumentException("what is not 0 to 3");
        }
        return tellSymbol(symbol, what);
    }

    public int ofPiece(int piece, int what) throws IndexOutOfBoundsException, IllegalArgumentException {
        if (!isWithin(piece, stock.pieces)) {
            throw new IndexOutOfBoundsException("no such piece");
        }
        if (!isWithin(what, PIECE_ANSWERS)) {
            throw new IllegalArgumentException("what is not 0 to 6");
        }
        return tellPiece(piece, what);
    }

    public int steps(int piece, int k) throws IndexOutOfBoundsException {
        if (!isWithin(piece, stock.pieces) || !image.layout.isLaid(piece)
                || !isWithin(k, stock.references.get(piece))) {
            throw new IndexOutOfBoundsException("no such piece that is laid, or no such reference");
        }
        return tellSteps(piece, k);
    }

    public int map(int word, int what) throws IndexOutOfBoundsException, IllegalArgumentException {
        if (!isWithin(word, WORDS)) {
            throw new IndexOutOfBoundsException("no such word");
        }
        if (!isWithin(what, PAIR_ANSWERS)) {
            throw new IllegalArgumentException("what is not 0 to 1");
        }
        return tellWord(word, what);
    }

    public int many(int what) throws IllegalArgumentException {
        if (!isWithin(what, MANY_ANSWERS)) {
            throw new IllegalArgumentException("what is not 0 to 9");
        }
        return tellMany(what);
    }

    // ---- runs

    public int run(int symbol) throws IndexOutOfBoundsException, IllegalStateException {
        if (!isSymbol(symbol)) {
            throw new IndexOutOfBoundsException("no such symbol");
        }
        if (!isStanding(symbol) || isHeld(symbol) || runs.count() >= MOST_RUNS) {
            throw new IllegalStateException("no image, nothing to run, a gate that holds, or 4 runs");
        }
        int number = runs.firstFree();
        runs.push(number, image.layout.stands.get(symbol));
        return number;
    }

    public int call(int run, int k) throws IndexOutOfBoundsException, IllegalStateException {
        if (!runs.isThere(run) || !isWithin(k, stock.references.get(runs.top(run)))) {
            throw new IndexOutOfBoundsException("no such run, or reference");
        }
        int symbol = stock.target(runs.top(run), k);
        if (runs.height.get(run) >= MOST_IN_STACK || isHeld(symbol)) {
            throw new IllegalStateException("the stack has 8, or a gate holds");
        }
        runs.push(run, image.layout.stands.get(symbol));
        return runs.top(run);
    }

    public int back(int run) throws IndexOutOfBoundsException {
        if (!runs.isThere(run)) {
            throw new IndexOutOfBoundsException("no such run");
        }
        runs.pop(run);
        carryOutPatches();
        return runs.top(run);
    }

    public int stack(int run, int k) throws IndexOutOfBoundsException {
        if (!runs.isThere(run) || !isWithin(k, runs.height.get(run))) {
            throw new IndexOutOfBoundsException("no such run, or place");
        }
        return runs.entry(run, k);
    }

    public double meanStack() {
        int count = runs.count();
        if (count == 0) {
            return 0.0;
        }
        return (double) runs.entries() / (double) count;
    }

    // ---- patches

    public int patch(int symbol, int size, int group, int to)
            throws IndexOutOfBoundsException, IllegalArgumentException, IllegalStateException {
        if (!isSymbol(symbol) || (to != NONE && !isSymbol(to))) {
            throw new IndexOutOfBoundsException("no such symbol");
        }
        if (!isPieceSize(size) || group < 0 || group > LAST_GROUP) {
            throw new IllegalArgumentException("size is not 1 to 20, or group is not 0 to 3");
        }
        if (!isStanding(symbol) || (to != NONE && !isStanding(to))
                || patches.count >= MOST_PATCHES || stock.pieces >= MOST_PIECES) {
            throw new IllegalStateException("no image, a symbol that stands for nothing, 8 patches, or 40 pieces");
        }
        int piece = stock.addPiece(NONE, symbol, size, true);
        if (to != NONE) {
            stock.addReference(piece, to, false);
        }
        int number = patches.add(piece, group);
        carryOutPatches();
        return number;
    }

    public boolean gate(int symbol, boolean isOn) throws IndexOutOfBoundsException {
        if (!isSymbol(symbol)) {
            throw new IndexOutOfBoundsException("no such symbol");
        }
        boolean wasOn = gates.get(symbol) == 1;
        gates.set(symbol, isOn ? 1 : 0);
        return wasOn;
    }

    public int ofPatch(int patch, int what) throws IndexOutOfBoundsException, IllegalArgumentException {
        if (!isWithin(patch, patches.count)) {
            throw new IndexOutOfBoundsException("no such patch");
        }
        if (!isWithin(what, PATCH_ANSWERS)) {
            throw new IllegalArgumentException("what is not 0 to 3");
        }
        return tellPatch(patch, what);
    }

    // ---- what would be (nothing is changed)

    public int backsFor(int patch) throws IndexOutOfBoundsException {
        if (!patches.isWaiting(patch)) {
            throw new IndexOutOfBoundsException("no such patch that waits");
        }
        int symbol = stock.symbol.get(patches.piece.get(patch));
        return runs.backsTillWithout(image.layout.stands.get(symbol));
    }

    public int islandsWith(int reach) throws IllegalArgumentException {
        if (!isReach(reach)) {
            throw new IllegalArgumentException("reach is not 5 to 100");
        }
        linker.attempt(stock, reach, NONE);
        return linker.layout.islands;
    }

    public int faultsWithout(int object) throws IndexOutOfBoundsException {
        if (!isWithin(object, stock.objects)) {
            throw new IndexOutOfBoundsException("no such object");
        }
        linker.attempt(stock, reachFromNow, object);
        return linker.faults;
    }

    public int place(int size) throws IllegalArgumentException {
        if (size < 1 || size > WORDS) {
            throw new IllegalArgumentException("size is not 1 to 200");
        }
        return image.room(size);
    }

    public long digest() {
        long d = DIGEST_START;
        for (int what = 0; what < MANY_ANSWERS; what++) {
            d = mix(d, tellMany(what));
        }
        d = mixSymbols(d);
        d = mixPieces(d);
        d = mixWords(d);
        d = mixRuns(d);
        d = mixPatches(d);
        linker.attempt(stock, reachFromNow, NONE);
        d = mixFaults(d);
        linker.attempt(stock, SMALLEST_REACH, NONE);
        return mix(d, linker.layout.islands);
    }

    // ---- what the arguments may be

    private static boolean isWithin(int number, int count) {
        return number >= 0 && number < count;
    }

    private static boolean isSymbol(int symbol) {
        return isWithin(symbol, SYMBOLS);
    }

    private static boolean isPieceSize(int size) {
        return size >= 1 && size <= LARGEST_SIZE;
    }

    private static boolean isReach(int reach) {
        return reach >= SMALLEST_REACH && reach <= LARGEST_REACH;
    }

    /** Without an image no symbol stands for anything. */
    private boolean isStanding(int symbol) {
        return image.layout.stands.get(symbol) != NONE;
    }

    private boolean isHeld(int symbol) {
        return gates.get(symbol) == 1 && patches.waitingFor(stock, symbol) > 0;
    }

    // ---- the answers, for arguments that were looked at

    private int tellFault(int k, int what) {
        return what == 0 ? linker.faultCode.get(k) : linker.faultSymbol.get(k);
    }

    private int tellSymbol(int symbol, int what) {
        switch (what) {
            case 0: return image.layout.stands.get(symbol);
            case 1: return image.layout.placeOfSymbol(symbol);
            case 2: return image.jumps.get(symbol);
            default: return patches.waitingFor(stock, symbol);
        }
    }

    private int tellPiece(int piece, int what) {
        switch (what) {
            case 0: return stock.owner.get(piece);
            case 1: return stock.symbol.get(piece);
            case 2: return stock.size.get(piece);
            case 3: return stock.strong.get(piece);
            case 4: return stock.references.get(piece);
            case 5: return image.layout.places.get(piece);
            default: return runs.runsWith(piece);
        }
    }

    /** An island or a jump is always in reach where the symbol's piece is not: linking and patching see to it. */
    private int tellSteps(int piece, int k) {
        boolean isDirect = !stock.isNear(piece, k) || image.layout.reachesSymbol(piece, stock.target(piece, k));
        return isDirect ? 1 : 2;
    }

    private int tellWord(int word, int what) {
        return what == 0 ? image.kinds.get(word) : image.holds.get(word);
    }

    private int tellMany(int what) {
        switch (what) {
            case 0: return stock.objects;
            case 1: return stock.pieces;
            case 2: return image.layout.objectsIn;
            case 3: return WORDS - image.kinds.count(FREE);
            case 4: return image.kinds.count(ISLAND);
            case 5: return image.kinds.count(JUMP);
            case 6: return runs.count();
            case 7: return patches.count;
            case 8: return patches.waiting();
            default: return image.isThere ? 1 : 0;
        }
    }

    private int tellPatch(int patch, int what) {
        switch (what) {
            case 0: return stock.symbol.get(patches.piece.get(patch));
            case 1: return patches.piece.get(patch);
            case 2: return patches.group.get(patch);
            default: return patches.state.get(patch);
        }
    }

    // ---- carrying patches out

    private void carryOutPatches() {
        // each round ends the waiting of one patch at least, so that there are never more rounds than patches
        for (int round = 0; round < MOST_PATCHES; round++) {
            int next = NONE;
            for (int patch = 0; patch < patches.count && next == NONE; patch++) {
                next = canBeDone(patch) ? patch : NONE;
            }
            if (next == NONE) {
                return;
            }
            carryOut(next);
        }
    }

    private boolean canBeDone(int patch) {
        if (!patches.isWaiting(patch)) {
            return false;
        }
        for (int other = 0; other < patches.count; other++) {
            if (patches.goesWith(other, patch) && !isClear(other)) {
                return false;
            }
        }
        return true;
    }

    /** For a patch that waits. */
    private boolean isClear(int patch) {
        if (patches.waitsBehind(stock, patch)) {
            return false;
        }
        int piece = patches.piece.get(patch);
        int replaced = image.layout.stands.get(stock.symbol.get(piece));
        return runs.runsWith(replaced) == 0 && image.room(stock.size.get(piece)) != NONE;
    }

    /** Works on the spare image, so that a group that fails leaves no trace in the real one. */
    private void carryOut(int first) {
        spare.copy(image);
        boolean isFitting = true;
        for (int patch = 0; patch < patches.count && isFitting; patch++) {
            if (patches.goesWith(patch, first)) {
                isFitting = spare.replace(stock, patches.piece.get(patch));
            }
        }
        if (isFitting) {
            image.copy(spare);
        }
        patches.end(first, isFitting ? DONE : FAILED);
    }

    // ---- the checksum, part by part

    private static long mix(long d, long v) {
        return d * DIGEST_FACTOR + v;
    }

    private long mixSymbols(long start) {
        long d = start;
        for (int symbol = 0; symbol < SYMBOLS; symbol++) {
            for (int what = 0; what < SYMBOL_ANSWERS; what++) {
                d = mix(d, tellSymbol(symbol, what));
            }
        }
        return d;
    }

    private long mixPieces(long start) {
        long d = start;
        for (int piece = 0; piece < stock.pieces; piece++) {
            for (int what = 0; what < PIECE_ANSWERS; what++) {
                d = mix(d, tellPiece(piece, what));
            }
            int references = image.layout.isLaid(piece) ? stock.references.get(piece) : 0;
            for (int k = 0; k < references; k++) {
                d = mix(d, tellSteps(piece, k));
            }
        }
        return d;
    }

    private long mixWords(long start) {
        long d = start;
        for (int word = 0; word < WORDS; word++) {
            d = mix(d, tellWord(word, 0));
            d = mix(d, tellWord(word, 1));
        }
        return d;
    }

    private long mixRuns(long start) {
        long d = start;
        for (int run = 0; run < MOST_RUNS; run++) {
            if (runs.isThere(run)) {
                d = mix(d, run);
            }
            for (int k = 0; k < runs.height.get(run); k++) {
                d = mix(d, runs.entry(run, k));
            }
        }
        return d;
    }

    private long mixPatches(long start) {
        long d = start;
        for (int patch = 0; patch < patches.count; patch++) {
            for (int what = 0; what < PATCH_ANSWERS; what++) {
                d = mix(d, tellPatch(patch, what));
            }
        }
        return d;
    }

    private long mixFaults(long start) {
        long d = start;
        for (int k = 0; k < linker.faults; k++) {
            d = mix(d, tellFault(k, 0));
            d = mix(d, tellFault(k, 1));
        }
        return d;
    }

    /** Numbers in a row; outside of it there is NONE, and nothing is kept: no index is used that was not looked at. */
    private static final class Row {
        private final int[] cells;

        Row(int length, int first) {
            cells = new int[length < 0 ? 0 : length];
            for (int i = 0; i < cells.length; i++) {
                cells[i] = first;
            }
        }

        int get(int i) {
            return i >= 0 && i < cells.length ? cells[i] : NONE;
        }

        void set(int i, int value) {
            if (i >= 0 && i < cells.length) {
                cells[i] = value;
            }
        }

        void add(int i, int more) {
            set(i, get(i) + more);
        }

        void fill(int value) {
            for (int i = 0; i < cells.length; i++) {
                cells[i] = value;
            }
        }

        void copy(Row from) {
            for (int i = 0; i < cells.length && i < from.cells.length; i++) {
                cells[i] = from.cells[i];
            }
        }

        int count(int value) {
            int found = 0;
            for (int i = 0; i < cells.length; i++) {
                if (cells[i] == value) {
                    found++;
                }
            }
            return found;
        }
    }

    /** All objects, and all pieces that ever were, with what they refer to. */
    private static final class Stock {
        final Row archived = new Row(MOST_OBJECTS, 0);
        int objects = 0;

        final Row owner = new Row(MOST_PIECES, NONE);
        final Row symbol = new Row(MOST_PIECES, NONE);
        final Row size = new Row(MOST_PIECES, 0);
        final Row strong = new Row(MOST_PIECES, 0);
        final Row references = new Row(MOST_PIECES, 0);
        final Row targets = new Row(MOST_PIECES * MOST_REFERENCES, NONE);
        final Row nears = new Row(MOST_PIECES * MOST_REFERENCES, 0);
        int pieces = 0;

        int addObject(boolean isArchived) {
            archived.set(objects, isArchived ? 1 : 0);
            objects++;
            return objects - 1;
        }

        int addPiece(int ofObject, int itsSymbol, int itsSize, boolean isStrong) {
            owner.set(pieces, ofObject);
            symbol.set(pieces, itsSymbol);
            size.set(pieces, itsSize);
            strong.set(pieces, isStrong ? 1 : 0);
            pieces++;
            return pieces - 1;
        }

        int addReference(int piece, int toSymbol, boolean isNear) {
            int slot = piece * MOST_REFERENCES + references.get(piece);
            targets.set(slot, toSymbol);
            nears.set(slot, isNear ? 1 : 0);
            references.add(piece, 1);
            return references.get(piece);
        }

        /** The piece of a patch that was forgotten has no object either, and is still none of an object. */
        boolean isOfPatch(int piece) {
            return owner.get(piece) == NONE;
        }

        int target(int piece, int k) {
            return targets.get(piece * MOST_REFERENCES + k);
        }

        boolean isNear(int piece, int k) {
            return nears.get(piece * MOST_REFERENCES + k) == 1;
        }

        /** The symbols of an object's pieces, one bit for each. */
        int symbolBits(int object) {
            int bits = 0;
            for (int piece = 0; piece < pieces; piece++) {
                if (owner.get(piece) == object) {
                    bits |= 1 << symbol.get(piece);
                }
            }
            return bits;
        }

        /** The symbols that an object's pieces refer to, one bit for each. */
        int targetBits(int object) {
            int bits = 0;
            for (int piece = 0; piece < pieces; piece++) {
                int itsReferences = owner.get(piece) == object ? references.get(piece) : 0;
                for (int k = 0; k < itsReferences; k++) {
                    bits |= 1 << target(piece, k);
                }
            }
            return bits;
        }
    }

    /** Where pieces and islands are, and what symbols stand for: in an image, or in one that is tried. */
    private static final class Layout {
        int reach = 0;
        int objectsIn = 0;
        int islands = 0;
        final Row stands = new Row(SYMBOLS, NONE);
        final Row places = new Row(MOST_PIECES, NONE);
        final Row islandPlaces = new Row(MOST_ISLANDS, NONE);

        void clear(int itsReach) {
            reach = itsReach;
            objectsIn = 0;
            islands = 0;
            stands.fill(NONE);
            places.fill(NONE);
            islandPlaces.fill(NONE);
        }

        void copy(Layout from) {
            reach = from.reach;
            objectsIn = from.objectsIn;
            islands = from.islands;
            stands.copy(from.stands);
            places.copy(from.places);
            islandPlaces.copy(from.islandPlaces);
        }

        static int islandKey(int object, int symbol) {
            return object * SYMBOLS + symbol;
        }

        boolean isLaid(int piece) {
            return places.get(piece) != NONE;
        }

        int placeOfSymbol(int symbol) {
            return places.get(stands.get(symbol));
        }

        boolean reachesSymbol(int piece, int symbol) {
            return isInReach(places.get(piece), places.get(stands.get(symbol)));
        }

        boolean reachesIsland(int piece, int object, int symbol) {
            return isInReach(places.get(piece), islandPlaces.get(islandKey(object, symbol)));
        }

        private boolean isInReach(int from, int to) {
            return from != NONE && to != NONE && from - to <= reach && to - from <= reach;
        }

        /** Whether a near reference to it, of a laid piece, reaches neither its piece nor the island of its object. */
        boolean losesSymbol(Stock stock, int symbol) {
            for (int piece = 0; piece < stock.pieces; piece++) {
                int references = isLaid(piece) ? stock.references.get(piece) : 0;
                for (int k = 0; k < references; k++) {
                    if (stock.isNear(piece, k) && stock.target(piece, k) == symbol && !reachesSymbol(piece, symbol)
                            && !reachesIsland(piece, stock.owner.get(piece), symbol)) {
                        return true;
                    }
                }
            }
            return false;
        }
    }

    /** One linking that is tried: its layout, and its faults. */
    private static final class Linker {
        final Layout layout = new Layout();
        final Row faultCode = new Row(2 * SYMBOLS + 1, 0);
        final Row faultSymbol = new Row(2 * SYMBOLS + 1, NONE);
        int faults = 0;

        private final Row order = new Row(MOST_OBJECTS, NONE);
        private final Row strongOnes = new Row(SYMBOLS, 0);
        private final Row islandKeys = new Row(MOST_ISLANDS, NONE);
        private int hadBits = 0;
        private int wantedBits = 0;
        private int words = 0;

        void attempt(Stock stock, int reach, int without) {
            begin(reach);
            takePlainObjects(stock, without);
            takeNeededArchives(stock, without);
            chooseWhatStands(stock);
            findDoubleSymbols();
            findMissingSymbols();
            if (faults > 0) {
                return;
            }
            layWithIslands(stock);
            findOutOfReach(stock);
            if (words > WORDS) {
                addFault(TOO_LONG, NONE);
            }
        }

        private void begin(int reach) {
            layout.clear(reach);
            strongOnes.fill(0);
            hadBits = 0;
            wantedBits = 0;
            words = 0;
            faults = 0;
        }

        private void takePlainObjects(Stock stock, int without) {
            for (int object = 0; object < stock.objects; object++) {
                if (object != without && stock.archived.get(object) == 0) {
                    takeIn(stock, object);
                }
            }
        }

        private void takeNeededArchives(Stock stock, int without) {
            for (int round = 0; round < MOST_OBJECTS; round++) {
                int next = firstNeededArchive(stock, without);
                if (next == NONE) {
                    return;
                }
                takeIn(stock, next);
            }
        }

        private void takeIn(Stock stock, int object) {
            order.set(layout.objectsIn, object);
            layout.objectsIn++;
            hadBits |= stock.symbolBits(object);
            wantedBits |= stock.targetBits(object);
        }

        /** One that is in is never needed: all its symbols are among those that are had. */
        private int firstNeededArchive(Stock stock, int without) {
            for (int object = 0; object < stock.objects; object++) {
                boolean isArchive = object != without && stock.archived.get(object) == 1;
                if (isArchive && (stock.symbolBits(object) & wantedBits & ~hadBits) != 0) {
                    return object;
                }
            }
            return NONE;
        }

        private void chooseWhatStands(Stock stock) {
            for (int i = 0; i < layout.objectsIn; i++) {
                for (int piece = 0; piece < stock.pieces; piece++) {
                    if (stock.owner.get(piece) == order.get(i)) {
                        considerForSymbol(stock, piece);
                    }
                }
            }
        }

        private void considerForSymbol(Stock stock, int piece) {
            int symbol = stock.symbol.get(piece);
            boolean isStrong = stock.strong.get(piece) == 1;
            boolean isFirstStrong = isStrong && strongOnes.get(symbol) == 0;
            if (isFirstStrong || layout.stands.get(symbol) == NONE) {
                layout.stands.set(symbol, piece);
            }
            if (isStrong) {
                strongOnes.add(symbol, 1);
            }
        }

        private void findDoubleSymbols() {
            for (int symbol = 0; symbol < SYMBOLS; symbol++) {
                if (strongOnes.get(symbol) >= 2) {
                    addFault(DOUBLE_SYMBOL, symbol);
                }
            }
        }

        private void findMissingSymbols() {
            for (int symbol = 0; symbol < SYMBOLS; symbol++) {
                if (((wantedBits >> symbol) & 1) == 1 && layout.stands.get(symbol) == NONE) {
                    addFault(MISSING_SYMBOL, symbol);
                }
            }
        }

        private void addFault(int code, int symbol) {
            faultCode.set(faults, code);
            faultSymbol.set(faults, symbol);
            faults++;
        }

        private void layWithIslands(Stock stock) {
            layAll(stock);
            for (int round = 0; round < MOST_ISLANDS; round++) {
                int key = firstMissingIsland(stock);
                if (key == NONE) {
                    return;
                }
                islandKeys.set(layout.islands, key);
                layout.islands++;
                layAll(stock);
            }
        }

        private void layAll(Stock stock) {
            words = 0;
            for (int i = 0; i < layout.objectsIn; i++) {
                layPieces(stock, order.get(i));
                layIslands(order.get(i));
            }
        }

        private void layPieces(Stock stock, int object) {
            for (int piece = 0; piece < stock.pieces; piece++) {
                if (stock.owner.get(piece) == object) {
                    layout.places.set(piece, words);
                    words += stock.size.get(piece);
                }
            }
        }

        private void layIslands(int object) {
            for (int i = 0; i < layout.islands; i++) {
                int key = islandKeys.get(i);
                if (key / SYMBOLS == object) {
                    layout.islandPlaces.set(key, words);
                    words++;
                }
            }
        }

        private int firstMissingIsland(Stock stock) {
            for (int i = 0; i < layout.objectsIn; i++) {
                for (int piece = 0; piece < stock.pieces; piece++) {
                    int key = stock.owner.get(piece) == order.get(i) ? missingIslandOf(stock, piece) : NONE;
                    if (key != NONE) {
                        return key;
                    }
                }
            }
            return NONE;
        }

        private int missingIslandOf(Stock stock, int piece) {
            for (int k = 0; k < stock.references.get(piece); k++) {
                int symbol = stock.target(piece, k);
                int key = Layout.islandKey(stock.owner.get(piece), symbol);
                if (stock.isNear(piece, k) && !layout.reachesSymbol(piece, symbol)
                        && layout.islandPlaces.get(key) == NONE) {
                    return key;
                }
            }
            return NONE;
        }

        private void findOutOfReach(Stock stock) {
            for (int symbol = 0; symbol < SYMBOLS; symbol++) {
                if (layout.losesSymbol(stock, symbol)) {
                    addFault(OUT_OF_REACH, symbol);
                }
            }
        }
    }

    /** What was linked last, word by word, with what patches made of it. */
    private static final class Image {
        boolean isThere = false;
        final Layout layout = new Layout();
        final Row kinds = new Row(WORDS, FREE);
        final Row holds = new Row(WORDS, NONE);
        final Row jumps = new Row(SYMBOLS, NONE);

        void begin(Stock stock, Layout linked) {
            isThere = true;
            layout.copy(linked);
            jumps.fill(NONE);
            mark(0, WORDS, FREE, NONE);
            for (int piece = 0; piece < stock.pieces; piece++) {
                if (layout.isLaid(piece)) {
                    mark(layout.places.get(piece), stock.size.get(piece), OF_PIECE, piece);
                }
            }
            for (int key = 0; key < MOST_ISLANDS; key++) {
                if (layout.islandPlaces.get(key) != NONE) {
                    mark(layout.islandPlaces.get(key), 1, ISLAND, key % SYMBOLS);
                }
            }
        }

        void copy(Image from) {
            isThere = from.isThere;
            layout.copy(from.layout);
            kinds.copy(from.kinds);
            holds.copy(from.holds);
            jumps.copy(from.jumps);
        }

        private void mark(int first, int size, int kind, int held) {
            for (int i = 0; i < size; i++) {
                kinds.set(first + i, kind);
                holds.set(first + i, held);
            }
        }

        /** The smallest word from which on so many are free, or NONE. */
        int room(int size) {
            int free = 0;
            for (int word = 0; word < WORDS; word++) {
                free = kinds.get(word) == FREE ? free + 1 : 0;
                if (free == size) {
                    return word - size + 1;
                }
            }
            return NONE;
        }

        /** Lays a patch's piece instead of the one that its symbol stood for; false, and nothing, without room. */
        boolean replace(Stock stock, int piece) {
            int size = stock.size.get(piece);
            int symbol = stock.symbol.get(piece);
            int first = room(size);
            if (first == NONE) {
                return false;
            }
            int before = layout.stands.get(symbol);
            int firstBefore = layout.places.get(before);
            mark(first, size, OF_PIECE, piece);
            layout.places.set(piece, first);
            layout.stands.set(symbol, piece);
            mark(firstBefore, stock.size.get(before), FREE, NONE);
            layout.places.set(before, NONE);
            if (jumps.get(symbol) == NONE && layout.losesSymbol(stock, symbol)) {
                mark(firstBefore, 1, JUMP, symbol);
                jumps.set(symbol, firstBefore);
            }
            return true;
        }
    }

    /** The stacks of the runs; a number with nothing in its stack is free. */
    private static final class Runs {
        final Row height = new Row(MOST_RUNS, 0);
        private final Row stacked = new Row(MOST_RUNS * MOST_IN_STACK, NONE);

        boolean isThere(int run) {
            return height.get(run) > 0;
        }

        int count() {
            return MOST_RUNS - height.count(0);
        }

        int entries() {
            int sum = 0;
            for (int run = 0; run < MOST_RUNS; run++) {
                sum += height.get(run);
            }
            return sum;
        }

        int firstFree() {
            for (int run = 0; run < MOST_RUNS; run++) {
                if (!isThere(run)) {
                    return run;
                }
            }
            return NONE;
        }

        int entry(int run, int k) {
            return stacked.get(run * MOST_IN_STACK + k);
        }

        /** NONE for a run that is over. */
        int top(int run) {
            return isThere(run) ? entry(run, height.get(run) - 1) : NONE;
        }

        void push(int run, int piece) {
            stacked.set(run * MOST_IN_STACK + height.get(run), piece);
            height.add(run, 1);
        }

        void pop(int run) {
            height.add(run, -1);
        }

        int runsWith(int piece) {
            int found = 0;
            for (int run = 0; run < MOST_RUNS; run++) {
                if (backsOf(run, piece) > 0) {
                    found++;
                }
            }
            return found;
        }

        int backsTillWithout(int piece) {
            int sum = 0;
            for (int run = 0; run < MOST_RUNS; run++) {
                sum += backsOf(run, piece);
            }
            return sum;
        }

        /** How often one run comes back till the piece is not in its stack: down to the lowest place that has it. */
        private int backsOf(int run, int piece) {
            for (int k = 0; k < height.get(run); k++) {
                if (stacked.get(run * MOST_IN_STACK + k) == piece) {
                    return height.get(run) - k;
                }
            }
            return 0;
        }
    }

    /** The patches of the image. */
    private static final class Patches {
        final Row piece = new Row(MOST_PATCHES, NONE);
        final Row group = new Row(MOST_PATCHES, 0);
        final Row state = new Row(MOST_PATCHES, WAITS);
        int count = 0;

        void forget() {
            count = 0;
        }

        int add(int itsPiece, int itsGroup) {
            piece.set(count, itsPiece);
            group.set(count, itsGroup);
            state.set(count, WAITS);
            count++;
            return count - 1;
        }

        boolean isWaiting(int patch) {
            return patch >= 0 && patch < count && state.get(patch) == WAITS;
        }

        int waiting() {
            int found = 0;
            for (int patch = 0; patch < count; patch++) {
                if (isWaiting(patch)) {
                    found++;
                }
            }
            return found;
        }

        int waitingFor(Stock stock, int symbol) {
            int found = 0;
            for (int patch = 0; patch < count; patch++) {
                if (isWaiting(patch) && stock.symbol.get(piece.get(patch)) == symbol) {
                    found++;
                }
            }
            return found;
        }

        /** Whether one with a smaller number waits for the same symbol. */
        boolean waitsBehind(Stock stock, int patch) {
            int symbol = stock.symbol.get(piece.get(patch));
            for (int other = 0; other < patch; other++) {
                if (isWaiting(other) && stock.symbol.get(piece.get(other)) == symbol) {
                    return true;
                }
            }
            return false;
        }

        /** Whether one that waits is done together with another: it is that, or waits in the same group. */
        boolean goesWith(int patch, int other) {
            boolean isTogether = patch == other || (group.get(other) != 0 && group.get(patch) == group.get(other));
            return isTogether && isWaiting(patch);
        }

        /** Ends the waiting of all that go with one, and of itself. */
        void end(int first, int itsState) {
            for (int patch = 0; patch < count; patch++) {
                if (goesWith(patch, first)) {
                    state.set(patch, itsState);
                }
            }
        }
    }
}
