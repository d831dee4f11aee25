/** Promises 21 to 24: what would be; DigestTest looks at the checksum. */
public final class WouldBeTest {
    private static final int NONE = -1;
    private static final Check check = new Check("WouldBeTest");

    public static void main(String[] args) {
        backs();
        islands();
        faults();
        places();
        nothingIsChanged();
        check.end();
    }

    /** Piece 0 refers to itself and to 1, piece 1 to 0; near ones, 10 words each. */
    private static LinkfactoryYard linked() {
        LinkfactoryYard x = new LinkfactoryYard();
        x.object(false);
        x.piece(0, 0, 10, false);
        x.piece(0, 1, 10, false);
        x.refer(0, 0, true);
        x.refer(0, 1, true);
        x.refer(1, 0, true);
        x.link();
        return x;
    }

    private static void backs() {
        LinkfactoryYard x = linked();
        x.run(0);
        x.call(0, 0);
        x.call(0, 1);
        x.run(0);
        x.run(1);
        x.call(2, 0);
        x.call(2, 1);
        x.patch(1, 3, 0, NONE);
        x.patch(0, 3, 0, NONE);
        x.patch(0, 3, 0, NONE);
        check.due("P21 one, none, and three", x.backsFor(0), 4);
        check.due("P21 three, one, and two", x.backsFor(1), 6);
        check.due("P21 the same for the one behind", x.backsFor(2), 6);
        check.outside("P21 patch 3", () -> x.backsFor(3));
        check.outside("P21 patch -1", () -> x.backsFor(-1));
        x.back(0);
        check.due("P21 one less", x.backsFor(0), 3);
        x.back(2);
        x.back(2);
        check.due("P21 nearly", x.backsFor(0), 1);
        x.back(2);
        check.outside("P21 it does not wait any more", () -> x.backsFor(0));
        check.due("P21 the other waits", x.backsFor(1), 3);
    }

    private static void islands() {
        LinkfactoryYard x = new LinkfactoryYard();
        check.badArgument("P22 4", () -> x.islandsWith(4));
        check.badArgument("P22 101", () -> x.islandsWith(101));
        check.due("P22 nothing there", x.islandsWith(5), 0);
        x.object(false);
        x.piece(0, 0, 10, false);
        x.piece(0, 1, 10, false);
        x.refer(0, 1, true);
        check.due("P22 in reach", x.islandsWith(10), 0);
        check.due("P22 out of reach, with a fault 3", x.islandsWith(9), 1);
        x.refer(1, 0, true);
        check.due("P22 both ways", x.islandsWith(5), 2);
        check.due("P22 the reach that there is does not matter", x.islandsWith(100), 0);
        check.due("P5 it stays", x.reach(40), 40);
        x.refer(1, 2, true);
        check.due("P22 with a fault 2", x.islandsWith(5), 0);
        x.piece(0, 2, 1, false);
        check.due("P22 without it", x.islandsWith(5), 3);
        x.piece(0, 2, 1, false);
        check.due("P22 with a fault 1", x.islandsWith(5), 0);
    }

    private static void faults() {
        LinkfactoryYard x = new LinkfactoryYard();
        check.outside("P23 no object", () -> x.faultsWithout(0));
        x.object(false);
        x.object(false);
        x.object(true);
        x.object(true);
        x.piece(0, 0, 10, false);
        x.piece(1, 0, 10, false);
        x.piece(1, 1, 10, true);
        x.piece(2, 2, 10, false);
        x.piece(3, 2, 10, false);
        x.refer(0, 1, false);
        x.refer(2, 2, false);
        check.due("P23 now", x.link(), 1);
        check.due("P23 without 0 there is none twice", x.faultsWithout(0), 0);
        check.due("P23 without 1 there is no symbol 1", x.faultsWithout(1), 1);
        check.due("P23 without 2 there is 3", x.faultsWithout(2), 1);
        x.refer(0, 15, true);
        check.due("P23 also the missing one", x.faultsWithout(3), 2);
        check.due("P23 without 1 two are missing", x.faultsWithout(1), 2);
        check.due("P23 without 0 nobody misses it", x.faultsWithout(0), 0);
        check.outside("P23 object 4", () -> x.faultsWithout(4));
        check.outside("P23 object -1", () -> x.faultsWithout(-1));
        LinkfactoryYard y = new LinkfactoryYard();
        y.object(false);
        y.object(false);
        y.object(false);
        y.piece(0, 0, 10, false);
        y.piece(1, 1, 20, false);
        y.piece(2, 2, 10, false);
        y.refer(0, 2, true);
        y.refer(0, 1, true);
        y.reach(9);
        check.due("P23 both are out of reach, and the islands too", y.link(), 2);
        check.due("P23 without 1 only 1 misses", y.faultsWithout(1), 1);
        check.due("P23 without the one that refers", y.faultsWithout(0), 0);
        y.reach(10);
        check.due("P23 with the reach from now on", y.faultsWithout(2), 1);
    }

    private static void places() {
        LinkfactoryYard x = new LinkfactoryYard();
        check.badArgument("P24 0", () -> x.place(0));
        check.badArgument("P24 201", () -> x.place(201));
        check.badArgument("P24 far off", () -> x.place(Integer.MIN_VALUE));
        check.due("P24 without an image", x.place(200), 0);
        check.due("P24 without an image, 1", x.place(1), 0);
        x.object(false);
        x.piece(0, 0, 10, false);
        x.piece(0, 1, 10, false);
        check.due("P24 still without an image", x.place(200), 0);
        x.link();
        check.due("P24 behind the last", x.place(1), 20);
        check.due("P24 all that is free", x.place(180), 20);
        check.due("P24 none", x.place(181), NONE);
        x.patch(0, 7, 0, NONE);
        check.due("P24 where it was", x.place(10), 0);
        check.due("P24 behind", x.place(11), 27);
        check.due("P24 what is left", x.place(173), 27);
        check.due("P24 no more", x.place(174), NONE);
        for (int i = 2; i < 10; i++) {
            x.piece(0, i, 20, false);
        }
        x.piece(0, 10, 20, false);
        x.link();
        check.due("P24 nothing is free", x.place(1), NONE);
    }

    private static void nothingIsChanged() {
        LinkfactoryYard x = linked();
        x.run(0);
        x.patch(0, 3, 0, NONE);
        x.object(false);
        x.piece(1, 5, 20, false);
        x.refer(3, 1, true);
        x.reach(7);
        long before = x.digest();
        x.backsFor(0);
        x.islandsWith(5);
        x.islandsWith(100);
        x.faultsWithout(0);
        x.faultsWithout(1);
        x.place(7);
        x.fault(0, 0);
        check.due("P21 to P24 nothing is changed", x.digest(), before);
        check.due("P25 nor by itself", x.digest(), before);
        check.due("P5 nor the reach", x.reach(7), 7);
        check.due("P10 nor the image's", x.steps(0, 1), 1);
    }
}
