import java.math.BigInteger;
import java.util.ArrayList;
import java.util.List;

/** Promise 25: the checksum as the document tells it, from the other answers, and without an end where it wraps around. */
public final class DigestTest {
    private static final int NONE = -1;
    private static final Check check = new Check("DigestTest");

    public static void main(String[] args) {
        Yards.Build[] builds = {Yards::fresh, DigestTest::emptyImage, Yards::written, Yards::linked, Yards::faulty,
            Yards::running, Yards::full, Yards::tight, Yards::failed, DigestTest::manyFaults, DigestTest::fortyPieces,
            DigestTest::oneDeepRun};
        for (int i = 0; i < builds.length; i++) {
            dueDigest("P25 of yard " + i, builds[i]);
        }
        check.due("P25 of a new yard", Yards.fresh().digest(), -4651575069155978577L);
        oneStepOfIt();
        theSameTwice();
        check.end();
    }

    private static LinkfactoryYard emptyImage() {
        LinkfactoryYard x = new LinkfactoryYard();
        x.link();
        return x;
    }

    /** 16 faults of symbols that two have. */
    private static LinkfactoryYard manyFaults() {
        LinkfactoryYard x = new LinkfactoryYard();
        x.object(false);
        for (int piece = 0; piece < 32; piece++) {
            x.piece(0, piece % 16, 20, false);
        }
        return x;
    }

    /** 17 faults, of reach and of length, and 120 islands with a reach of 5. */
    private static LinkfactoryYard fortyPieces() {
        LinkfactoryYard x = new LinkfactoryYard();
        for (int object = 0; object < 8; object++) {
            x.object(false);
        }
        for (int piece = 0; piece < 40; piece++) {
            x.piece(piece / 5, piece < 16 ? piece : 15, 20, piece >= 16);
            for (int k = 0; k < 3; k++) {
                x.refer(piece, (3 * (piece % 5) + k + 5 * (piece / 5 + 1)) % 16, true);
            }
        }
        x.reach(5);
        return x;
    }

    private static LinkfactoryYard oneDeepRun() {
        LinkfactoryYard x = Yards.linked();
        x.run(2);
        x.run(0);
        for (int i = 0; i < 7; i++) {
            x.call(1, 0);
        }
        x.back(0);
        return x;
    }

    private static void dueDigest(String what, Yards.Build build) {
        List<Integer> all = new ArrayList<>();
        addMany(all, build.make());
        int pieces = build.make().many(1);
        addPieces(all, build.make(), 0, Math.min(pieces, 20));
        addPieces(all, build.make(), 20, pieces);
        addWords(all, build.make(), 0, 100);
        addWords(all, build.make(), 100, 200);
        addRuns(all, build.make());
        addPatches(all, build.make());
        addFaults(all, build.make());
        BigInteger endless = BigInteger.valueOf(5737);
        for (int v : all) {
            endless = endless.multiply(BigInteger.valueOf(31)).add(BigInteger.valueOf(v));
        }
        check.due(what + ", it wraps around", endless.bitLength() > 64, true);
        check.due(what, build.make().digest(), endless.longValue());
    }

    private static void addMany(List<Integer> all, LinkfactoryYard x) {
        for (int what = 0; what <= 9; what++) {
            all.add(x.many(what));
        }
        for (int symbol = 0; symbol < 16; symbol++) {
            for (int what = 0; what <= 3; what++) {
                all.add(x.ofSymbol(symbol, what));
            }
        }
    }

    private static void addPieces(List<Integer> all, LinkfactoryYard x, int first, int end) {
        for (int piece = first; piece < end; piece++) {
            int[] answers = new int[7];
            for (int what = 0; what <= 6; what++) {
                answers[what] = x.ofPiece(piece, what);
                all.add(answers[what]);
            }
            for (int k = 0; answers[5] != NONE && k < answers[4]; k++) {
                all.add(x.steps(piece, k));
            }
        }
    }

    private static void addWords(List<Integer> all, LinkfactoryYard x, int first, int end) {
        for (int word = first; word < end; word++) {
            all.add(x.map(word, 0));
            all.add(x.map(word, 1));
        }
    }

    private static void addRuns(List<Integer> all, LinkfactoryYard x) {
        for (int run = 0; run < 4; run++) {
            try {
                int first = x.stack(run, 0);
                all.add(run);
                all.add(first);
                for (int k = 1; k <= 8; k++) {
                    all.add(x.stack(run, k));
                }
                check.due("P16 no ninth place", true, false);
            } catch (IndexOutOfBoundsException e) {
                continue;
            }
        }
    }

    private static void addPatches(List<Integer> all, LinkfactoryYard x) {
        int patches = x.many(7);
        for (int patch = 0; patch < patches; patch++) {
            for (int what = 0; what <= 3; what++) {
                all.add(x.ofPatch(patch, what));
            }
        }
    }

    private static void addFaults(List<Integer> all, LinkfactoryYard x) {
        try {
            for (int k = 0; k <= 17; k++) {
                int code = x.fault(k, 0);
                all.add(code);
                all.add(x.fault(k, 1));
            }
            check.due("P7 no 18th fault", true, false);
        } catch (IndexOutOfBoundsException e) {
            all.add(x.islandsWith(5));
        }
    }

    /** The last v is islandsWith() of 5: one island more is 1 more, also where the number wraps around. */
    private static void oneStepOfIt() {
        LinkfactoryYard x = withReferences(false);
        LinkfactoryYard y = withReferences(true);
        check.due("P22 no island", x.islandsWith(5), 0);
        check.due("P22 an island", y.islandsWith(5), 1);
        check.due("P25 one more", y.digest() - x.digest(), 1L);
    }

    private static LinkfactoryYard withReferences(boolean isNear) {
        LinkfactoryYard x = new LinkfactoryYard();
        x.object(false);
        x.piece(0, 0, 10, false);
        x.piece(0, 1, 10, false);
        x.refer(0, 1, isNear);
        return x;
    }

    private static void theSameTwice() {
        LinkfactoryYard x = Yards.running();
        long first = x.digest();
        check.due("P25 the same again", x.digest(), first);
        x.back(0);
        check.due("P25 another one then", x.digest() == first, false);
    }
}
