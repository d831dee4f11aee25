import java.util.Map;
import java.util.Random;
import java.util.TreeMap;

/** All promises: long runs of calls, the same each time, answered as the model answers them. */
public final class ModelTest {
    private static final Check check = new Check("ModelTest");
    private static final int RUNS = 1000;
    /** What an object answers after so many calls is free. */
    private static final int MOST_CALLS = 512;
    /** Shapes of a run: with images that are nearly full, or with many pieces; the others have neither. */
    private static final int FULL = 1;
    private static final int MANY = 2;
    private static final Map<String, Integer> seen = new TreeMap<>();

    /** One call, on the class and on the model. */
    private interface Call {
        double on(LinkfactoryYard x);
    }

    private interface ModelCall {
        double on(Model x);
    }

    private final Random random;
    private final int seed;
    private final LinkfactoryYard yard = new LinkfactoryYard();
    private final Model model = new Model();
    private final int shape;
    private final int symbols;
    private final int smallest;
    private final int largest;
    private final int nearOnes;
    private final StringBuilder told = new StringBuilder();
    private int calls = 0;
    private int failed = 0;

    private ModelTest(int seed) {
        this.seed = seed;
        random = new Random(seed);
        shape = seed % 4;
        largest = shape == FULL ? 14 + random.nextInt(7) : shape == MANY ? 7 : 3 + random.nextInt(18);
        smallest = shape == FULL ? largest : 1;
        symbols = shape == FULL ? 200 / largest - 1 : 2 + random.nextInt(shape == MANY ? 15 : 8);
        nearOnes = random.nextInt(101);
    }

    public static void main(String[] args) {
        for (int seed = 0; seed < RUNS; seed++) {
            new ModelTest(seed).play();
        }
        String[] needed = {"code 1", "code 2", "code 3", "code 4", "islands", "jumps", "state 0", "state 1", "group fails",
            "steps 2", "held", "archive in", "call throws IllegalStateException", "run throws IllegalStateException",
            "piece throws IllegalStateException", "refer throws IllegalStateException",
            "link throws IllegalStateException", "patch throws IllegalStateException"};
        for (String event : needed) {
            check.due("how often there was: " + event, seen.getOrDefault(event, 0) >= 20, true);
        }
        check.end();
    }

    private static void see(String event) {
        seen.merge(event, 1, Integer::sum);
    }

    private boolean chance(int percent) {
        return random.nextInt(100) < percent;
    }

    /** Mostly below the bound; now and then around its edges, or far off. */
    private int number(int bound) {
        if (chance(4)) {
            int[] edges = {-1, bound, bound + 1, -2, Integer.MIN_VALUE, Integer.MAX_VALUE};
            return edges[random.nextInt(edges.length)];
        }
        return bound <= 0 ? 0 : random.nextInt(bound);
    }

    private int symbol() {
        return chance(97) ? random.nextInt(symbols) : number(16);
    }

    private int size() {
        return chance(97) ? smallest + random.nextInt(largest + 1 - smallest) : number(22);
    }

    private String answerOf(Call call) {
        try {
            return String.valueOf(call.on(yard));
        } catch (RuntimeException e) {
            return "throws " + e.getClass().getSimpleName();
        }
    }

    private void same(String name, Call call, ModelCall due) {
        if (calls >= MOST_CALLS) {
            return;
        }
        calls++;
        String want;
        try {
            want = String.valueOf(due.on(model));
        } catch (RuntimeException e) {
            want = "throws " + e.getClass().getSimpleName();
            see(name.substring(0, name.indexOf('(')) + " " + want);
        }
        String got = answerOf(call);
        told.append(name).append(" = ").append(want).append('\n');
        if (!got.equals(want)) {
            System.out.println("seed " + seed + "\n" + told);
        }
        check.dueText("seed " + seed + ", " + name, got, want);
    }

    private void play() {
        build();
        for (int i = 0; calls < MOST_CALLS; i++) {
            if (i % 40 == 0) {
                workOnGroup();
            } else if (chance(75)) {
                work();
            } else {
                ask();
            }
            sameDigest();
            noteFailed();
        }
        note();
    }

    private void sameDigest() {
        if (calls >= MOST_CALLS) {
            return;
        }
        calls++;
        long want = model.digest();
        long got = yard.digest();
        if (got != want) {
            System.out.println("seed " + seed + "\n" + told);
        }
        check.due("seed " + seed + ", digest", got, want);
    }

    private void build() {
        int objects = 1 + random.nextInt(shape == FULL ? 2 : 6);
        for (int i = 0; i < objects; i++) {
            addObject(i > 0 && chance(40));
        }
        for (int symbol = 0; symbol < symbols; symbol++) {
            if (shape == FULL || chance(95)) {
                addPiece(random.nextInt(objects), symbol, size(), false);
            }
            if (shape != FULL && chance(25)) {
                addPiece(random.nextInt(objects), symbol, size(), chance(90));
            }
        }
        for (int i = random.nextInt(3 * symbols); i > 0; i--) {
            int piece = number(model.many(1));
            boolean isNext = shape == FULL && piece >= 0 && piece < symbols - 1;
            addReference(piece, isNext ? piece + random.nextInt(2) : random.nextInt(symbols));
        }
        setReach(5 + (shape == FULL ? 15 + random.nextInt(60) : random.nextInt(chance(50) ? 20 : 96)));
        same("link()", x -> x.link(), x -> x.link());
    }

    private void addObject(boolean isArchived) {
        same("object(" + isArchived + ")", x -> x.object(isArchived), x -> x.object(isArchived));
    }

    private void addPiece(int object, int symbol, int size, boolean isWeak) {
        same("piece(" + object + ", " + symbol + ", " + size + ", " + isWeak + ")",
                x -> x.piece(object, symbol, size, isWeak), x -> x.piece(object, symbol, size, isWeak));
    }

    private void addReference(int piece, int symbol) {
        boolean isNear = chance(nearOnes);
        same("refer(" + piece + ", " + symbol + ", " + isNear + ")",
                x -> x.refer(piece, symbol, isNear), x -> x.refer(piece, symbol, isNear));
    }

    private void setReach(int reach) {
        same("reach(" + reach + ")", x -> x.reach(reach), x -> x.reach(reach));
    }

    /** Mostly a run that is there. */
    private int someRun() {
        int run = number(4);
        for (int i = 0; i < 6 && !isThere(run); i++) {
            run = number(4);
        }
        return run;
    }

    private boolean isThere(int run) {
        try {
            return model.stack(run, 0) >= 0;
        } catch (IndexOutOfBoundsException e) {
            return false;
        }
    }

    private void work() {
        int kind = shape == MANY && chance(20) ? 4 : random.nextInt(100);
        int a = someRun();
        int b = number(3);
        if (kind < 3) {
            addObject(chance(60));
        } else if (kind < 7) {
            addPiece(number(model.many(0)), symbol(), size(), chance(95));
        } else if (kind < 14) {
            addReference(number(model.many(1)), symbol());
        } else if (kind < 17) {
            setReach(5 + number(96));
        } else if (kind < 22) {
            same("link()", x -> x.link(), x -> x.link());
        } else if (kind < 37) {
            int symbol = symbol();
            same("run(" + symbol + ")", x -> x.run(symbol), x -> x.run(symbol));
        } else if (kind < 62) {
            same("call(" + a + ", " + b + ")", x -> x.call(a, b), x -> x.call(a, b));
        } else if (kind < 82) {
            same("back(" + a + ")", x -> x.back(a), x -> x.back(a));
        } else if (kind < 95) {
            addPatch(symbol(), chance(70) ? size() : number(22), chance(30) ? 0 : number(shape == FULL ? 2 : 4),
                    chance(40) ? -1 : symbol());
        } else {
            int symbol = symbol();
            boolean isOn = chance(70);
            same("gate(" + symbol + ", " + isOn + ")", x -> x.gate(symbol, isOn) ? 1 : 0, x -> x.gate(symbol, isOn));
        }
    }

    /** A run, patches of one group that wait for it, and then the run comes back: the group is done, or fails. */
    private void workOnGroup() {
        int first = random.nextInt(symbols);
        int group = 1 + random.nextInt(3);
        for (int run = 0; run < 4 && chance(80); run++) {
            while (isThere(run) && calls < MOST_CALLS) {
                int over = run;
                same("back(" + over + ")", x -> x.back(over), x -> x.back(over));
            }
        }
        if (chance(60)) {
            same("link()", x -> x.link(), x -> x.link());
        }
        same("run(" + first + ")", x -> x.run(first), x -> x.run(first));
        for (int i = 0; i == 0 || chance(60); i++) {
            addPatch((first + (chance(85) ? i : 0)) % symbols, size(), chance(90) ? group : 0, chance(60) ? -1 : symbol());
        }
        for (int run = 0; run < 4; run++) {
            int last = run;
            same("back(" + last + ")", x -> x.back(last), x -> x.back(last));
            sameDigest();
            noteFailed();
        }
    }

    private void addPatch(int symbol, int size, int group, int to) {
        same("patch(" + symbol + ", " + size + ", " + group + ", " + to + ")",
                x -> x.patch(symbol, size, group, to), x -> x.patch(symbol, size, group, to));
    }

    private void ask() {
        int a = number(8);
        int b = number(7);
        int symbol = symbol();
        int piece = number(model.many(1));
        int word = number(200);
        switch (random.nextInt(13)) {
            case 0 -> same("fault(" + a + ", " + b + ")", x -> x.fault(a, b), x -> x.fault(a, b));
            case 1 -> same("ofSymbol(" + symbol + ", " + b + ")", x -> x.ofSymbol(symbol, b), x -> x.ofSymbol(symbol, b));
            case 2 -> same("ofPiece(" + piece + ", " + b + ")", x -> x.ofPiece(piece, b), x -> x.ofPiece(piece, b));
            case 3 -> same("steps(" + piece + ", " + b + ")", x -> x.steps(piece, b), x -> x.steps(piece, b));
            case 4 -> same("map(" + word + ", " + b + ")", x -> x.map(word, b), x -> x.map(word, b));
            case 5 -> same("many(" + (a + b) + ")", x -> x.many(a + b), x -> x.many(a + b));
            case 6 -> same("stack(" + b + ", " + a + ")", x -> x.stack(b, a), x -> x.stack(b, a));
            case 7 -> same("meanStack()", x -> x.meanStack(), x -> x.meanStack());
            case 8 -> same("ofPatch(" + a + ", " + b + ")", x -> x.ofPatch(a, b), x -> x.ofPatch(a, b));
            case 9 -> same("backsFor(" + a + ")", x -> x.backsFor(a), x -> x.backsFor(a));
            case 10 -> same("islandsWith(" + word + ")", x -> x.islandsWith(word), x -> x.islandsWith(word));
            case 11 -> same("faultsWithout(" + a + ")", x -> x.faultsWithout(a), x -> x.faultsWithout(a));
            default -> same("place(" + word + ")", x -> x.place(word), x -> x.place(word));
        }
    }

    /** What stood at the end, so that a test that sees nothing is not taken for a good one. */
    private void note() {
        for (int k = 0; !fault(model, k).isEmpty(); k++) {
            see(fault(model, k));
        }
        if (model.many(4) > 0) {
            see("islands");
        }
        if (model.many(5) > 0) {
            see("jumps");
        }
        for (int patch = 0; patch < model.many(7); patch++) {
            see("state " + model.ofPatch(patch, 3));
        }
        for (int symbol = 0; symbol < 16; symbol++) {
            if (model.ofSymbol(symbol, 3) > 0 && model.gate(symbol, false) == 1) {
                see("held");
            }
        }
        noteSteps();
    }

    private void noteFailed() {
        int now = 0;
        for (int patch = 0; patch < model.many(7); patch++) {
            now += model.ofPatch(patch, 3) == 2 ? 1 : 0;
        }
        if (now > failed) {
            see(now > failed + 1 ? "group fails" : "one fails");
        }
        failed = now;
    }

    private static String fault(Model model, int k) {
        try {
            return "code " + model.fault(k, 0);
        } catch (IndexOutOfBoundsException e) {
            return "";
        }
    }

    private void noteSteps() {
        int archives = 0;
        for (int piece = 0; piece < model.many(1); piece++) {
            int object = model.ofPiece(piece, 0);
            boolean isLaid = model.ofPiece(piece, 5) >= 0;
            archives += isLaid && object >= 0 && model.objects.get(object) ? 1 : 0;
            for (int k = 0; isLaid && k < model.ofPiece(piece, 4); k++) {
                see("steps " + model.steps(piece, k));
            }
        }
        if (archives > 0) {
            see("archive in");
        }
    }
}
