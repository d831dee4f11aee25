/** Promises 21 to 24, sentence by sentence: what just is so, and what just is not. */
public final class WouldBeEdgesTest {
    private static final int NONE = -1;
    private static final Check check = new Check("WouldBeEdgesTest");

    public static void main(String[] args) {
        backsOfNoneAndOfAll();
        backsDownToTheLowest();
        onlyOfThoseThatWait();
        backsByNumbers();
        islandsWithByNumbers();
        islandsWithFaults();
        islandsOfNothing();
        objectsByNumbers();
        faultsWithoutEach();
        archivesThatAreNotThere();
        placesByNumbers();
        placesOfEmptyImages();
        placesJustLargeEnough();
        placesOfAFullImage();
        nothingIsChanged();
        check.end();
    }

    private static LinkfactoryYard sizes(int reach, int... sizes) {
        LinkfactoryYard x = new LinkfactoryYard();
        x.object(false);
        for (int i = 0; i < sizes.length; i++) {
            x.piece(0, i, sizes[i], false);
        }
        x.reach(reach);
        return x;
    }

    // ---- backsFor

    private static void backsOfNoneAndOfAll() {
        LinkfactoryYard x = sizes(40, 20, 20, 20, 20, 20, 20, 20, 20, 20, 20);
        x.link();
        x.patch(0, 1, 0, NONE);
        check.due("P21 it waits for room alone", x.backsFor(0), 0);
        x.run(0);
        check.due("P21 now for a run too", x.backsFor(0), 1);
        x.run(1);
        check.due("P21 another one does not matter", x.backsFor(0), 1);
        for (int patch = 0; patch < 8; patch++) {
            check.due("P21 four runs with 8 each, " + patch, Yards.full().backsFor(patch), 32);
        }
        LinkfactoryYard y = Yards.full();
        for (int backs = 31; backs >= 0; backs--) {
            y.back(backs / 8);
            check.due("P21 " + backs + " more", y.backsFor(7), backs);
        }
        check.due("P12 no run", y.many(6), 0);
    }

    /** "till none has what its SYMBOL STANDS for in its STACK": what lies above that comes back too. */
    private static void backsDownToTheLowest() {
        LinkfactoryYard x = sizes(40, 4, 4, 4);
        x.refer(0, 0, false);
        x.refer(0, 1, false);
        x.refer(1, 0, false);
        x.link();
        for (int height = 1; height <= 8; height++) {
            LinkfactoryYard y = sizes(40, 4, 4, 4);
            y.refer(0, 0, false);
            y.refer(0, 1, false);
            y.link();
            y.run(0);
            for (int i = 1; i < height; i++) {
                y.call(0, i == height - 1 ? 1 : 0);
            }
            y.patch(0, 1, 0, NONE);
            check.due("P21 at the bottom of " + height, y.backsFor(0), height);
            if (height > 1) {
                y.patch(1, 1, 0, NONE);
                check.due("P21 at the top of " + height, y.backsFor(1), 1);
            }
        }
        x.run(1);
        x.call(0, 0);
        x.call(0, 1);
        x.call(0, 0);
        x.run(2);
        x.run(0);
        x.patch(0, 1, 1, NONE);
        x.patch(1, 1, 2, NONE);
        x.patch(2, 1, 2, NONE);
        check.due("P21 0 lies at place 1 of 4, and alone", x.backsFor(0), 4);
        check.due("P21 1 lies at the bottom of 4", x.backsFor(1), 4);
        check.due("P21 2 lies alone", x.backsFor(2), 1);
        x.back(1);
        check.due("P21 that of the same group waits, but for the other", x.backsFor(2), 0);
    }

    /** "if there is no such one that WAITS": it is done, or has failed, or is gone. */
    private static void onlyOfThoseThatWait() {
        check.outside("P21 it is done", Yards::running, x -> x.backsFor(0));
        check.due("P21 it waits", Yards.running().backsFor(1), 4);
        check.outside("P21 it has failed", Yards::failed, x -> x.backsFor(0));
        check.outside("P21 it has failed too", Yards::failed, x -> x.backsFor(1));
        check.outside("P21 it is gone", () -> fullAndLinkedAgain(), x -> x.backsFor(0));
    }

    private static LinkfactoryYard fullAndLinkedAgain() {
        LinkfactoryYard x = Yards.fullAndLinked();
        x.patch(0, 1, 0, NONE);
        check.due("P21 it waits for room", x.backsFor(0), 0);
        x.link();
        return x;
    }

    private static void backsByNumbers() {
        check.due("P21 the last", Yards.running().backsFor(3), 2);
        check.outside("P21 behind the last", Yards::running, x -> x.backsFor(4));
        check.outside("P21 before the first", Yards::running, x -> x.backsFor(-1));
        check.outside("P21 no image", Yards::fresh, x -> x.backsFor(0));
        check.outside("P21 no patch", Yards::linked, x -> x.backsFor(0));
        check.outside("P21 no ninth", Yards::full, x -> x.backsFor(8));
    }

    // ---- islandsWith

    /** "if reach is not 5 to 100": and the one that there is does not matter. */
    private static void islandsWithByNumbers() {
        for (int reach : new int[] {5, 100}) {
            LinkfactoryYard x = sizes(reach, 5, 1, 20, 20, 20, 20, 14, 1, 1);
            x.refer(0, 1, true);
            x.refer(0, 7, true);
            x.refer(0, 8, true);
            x.refer(1, 0, true);
            check.due("P22 5: the first is in reach, and the last", x.islandsWith(5), 2);
            check.due("P22 6", x.islandsWith(6), 2);
            check.due("P22 99: two are too far", x.islandsWith(99), 2);
            check.due("P22 100: one is just in reach", x.islandsWith(100), 1);
            check.due("P5 it stays", x.reach(40), reach);
        }
        for (int off : new int[] {4, 101}) {
            check.badArgument("P22 " + off, Yards::fresh, x -> x.islandsWith(off));
            check.badArgument("P22 " + off + " beside runs", Yards::running, x -> x.islandsWith(off));
            check.badArgument("P22 " + off + " beside faults", Yards::faulty, x -> x.islandsWith(off));
        }
    }

    /** "(0 with a FAULT 1 or 2)": not with a FAULT 3 or 4. */
    private static void islandsWithFaults() {
        LinkfactoryYard x = sizes(5, 20, 20);
        x.refer(0, 1, true);
        check.due("P7 a fault 3", x.fault(0, 0), 3);
        check.due("P22 with a fault 3", x.islandsWith(5), 1);
        LinkfactoryYard y = sizes(40, 20, 20, 20, 20, 20, 20, 20, 20, 20, 20);
        y.refer(9, 0, true);
        check.due("P7 a fault 4", y.fault(0, 0), 4);
        check.due("P22 with a fault 4", y.islandsWith(40), 1);
        LinkfactoryYard z = sizes(5, 20, 20);
        z.refer(0, 1, true);
        z.refer(0, 2, false);
        check.due("P7 a fault 2", z.fault(0, 0), 2);
        check.due("P22 with a fault 2", z.islandsWith(5), 0);
        x.piece(0, 1, 1, false);
        check.due("P7 a fault 1", x.fault(0, 0), 1);
        check.due("P22 with a fault 1", x.islandsWith(5), 0);
        check.due("P22 that of the image stays", Yards.faulty().islandsWith(12), 0);
        check.due("P12 the image has three", Yards.faulty().many(4), 3);
    }

    private static void islandsOfNothing() {
        check.due("P22 of a new yard, 5", Yards.fresh().islandsWith(5), 0);
        check.due("P22 of a new yard, 100", Yards.fresh().islandsWith(100), 0);
        check.due("P22 not linked", Yards.written().islandsWith(12), 3);
        check.due("P22 linked", Yards.linked().islandsWith(12), 3);
        check.due("P22 of a full yard", Yards.full().islandsWith(30), 8);
    }

    // ---- faultsWithout

    /** "if there is no such OBJECT". */
    private static void objectsByNumbers() {
        for (int objects = 0; objects <= 8; objects++) {
            int count = objects;
            if (count > 0) {
                check.due("P23 the first of " + count, withObjects(count).faultsWithout(0), 0);
                check.due("P23 the last of " + count, withObjects(count).faultsWithout(count - 1), 0);
            }
            check.outside("P23 behind " + count, () -> withObjects(count), x -> x.faultsWithout(count));
            check.outside("P23 before " + count, () -> withObjects(count), x -> x.faultsWithout(-1));
        }
    }

    private static LinkfactoryYard withObjects(int objects) {
        LinkfactoryYard x = new LinkfactoryYard();
        for (int i = 0; i < objects; i++) {
            x.object(i % 2 == 1);
        }
        return x;
    }

    /** "how many FAULTS link() would have, if that OBJECT was not there": of each kind. */
    private static void faultsWithoutEach() {
        LinkfactoryYard x = Yards.faulty();
        int[] due = {1, 3, 3, 2, 1};
        for (int object = 0; object < 5; object++) {
            check.due("P23 without " + object, x.faultsWithout(object), due[object]);
        }
        LinkfactoryYard y = sizes(40, 20, 20, 20, 20, 20, 20, 20, 20, 20, 20);
        y.object(false);
        y.piece(1, 10, 1, false);
        check.due("P6 201 words", y.link(), 1);
        check.due("P23 200 words", y.faultsWithout(1), 0);
        check.due("P23 1 word", y.faultsWithout(0), 0);
        LinkfactoryYard z = sizes(6, 6);
        z.object(false);
        z.piece(1, 1, 1, false);
        z.piece(1, 2, 20, false);
        z.object(false);
        z.piece(2, 3, 1, false);
        z.refer(0, 1, true);
        z.refer(3, 1, true);
        check.due("P6 by an island that the last one has", z.link(), 0);
        check.due("P12 that one alone", z.many(4), 1);
        z.reach(5);
        check.due("P23 with the reach of now", z.faultsWithout(2), 1);
        check.due("P23 without what they refer to", z.faultsWithout(1), 1);
    }

    private static void archivesThatAreNotThere() {
        LinkfactoryYard x = new LinkfactoryYard();
        for (int object = 0; object < 4; object++) {
            x.object(object > 0);
        }
        x.piece(0, 0, 1, false);
        x.refer(0, 1, false);
        x.piece(1, 1, 1, false);
        x.refer(1, 2, false);
        x.piece(2, 2, 1, false);
        x.piece(3, 1, 1, false);
        check.due("P6 the first archive, and what it needs", x.link(), 0);
        check.due("P12 three are in", x.many(2), 3);
        check.due("P23 without it the other one is in", x.faultsWithout(1), 0);
        check.due("P23 without what it needs", x.faultsWithout(2), 1);
        check.due("P23 without one that is not in", x.faultsWithout(3), 0);
        check.due("P12 that stays", x.many(2), 3);
    }

    // ---- place

    /** "if size is not 1 to 200". */
    private static void placesByNumbers() {
        for (int off : new int[] {0, 201}) {
            check.badArgument("P24 " + off + " of a new yard", Yards::fresh, x -> x.place(off));
            check.badArgument("P24 " + off + " of an image", Yards::running, x -> x.place(off));
            check.badArgument("P24 " + off + " of a full one", Yards::full, x -> x.place(off));
        }
        check.due("P24 1", Yards.running().place(1), 5);
        check.due("P24 200", Yards.running().place(200), NONE);
    }

    /** "(0 without an IMAGE)". */
    private static void placesOfEmptyImages() {
        for (int size : new int[] {1, 20, 21, 199, 200}) {
            check.due("P24 of a new yard, " + size, Yards.fresh().place(size), 0);
            check.due("P24 not linked, " + size, Yards.written().place(size), 0);
            LinkfactoryYard x = new LinkfactoryYard();
            x.link();
            check.due("P24 of an empty image, " + size, x.place(size), 0);
        }
    }

    /** "the smallest WORD from which on there are as many FREE ones". */
    private static void placesJustLargeEnough() {
        LinkfactoryYard x = Yards.running();
        check.due("P24 7 words of the piece that was replaced, behind its jump", x.place(7), 5);
        check.due("P24 8 words behind the last", x.place(8), 48);
        check.due("P24 all of them", x.place(152), 48);
        check.due("P24 one more", x.place(153), NONE);
        LinkfactoryYard y = sizes(40, 20);
        y.link();
        check.due("P24 180", y.place(180), 20);
        check.due("P24 181", y.place(181), NONE);
        y.patch(0, 1, 0, NONE);
        check.due("P24 20 at the first word", y.place(20), 0);
        check.due("P24 21 behind the last", y.place(21), 21);
        check.due("P24 179", y.place(179), 21);
        check.due("P24 180 are not left", y.place(180), NONE);
    }

    private static void placesOfAFullImage() {
        check.due("P24 not 1", Yards.full().place(1), NONE);
        check.due("P24 not 200", Yards.full().place(200), NONE);
        LinkfactoryYard x = sizes(40, 20, 20, 20, 20, 20, 20, 20, 20, 20, 19);
        x.link();
        check.due("P24 the last word", x.place(1), 199);
        check.due("P24 not two", x.place(2), NONE);
    }

    /** "what would be (nothing is changed)": neither the image, nor what is written. */
    private static void nothingIsChanged() {
        Yards.Build[] builds = {Yards::fresh, Yards::written, Yards::linked, Yards::faulty, Yards::running, Yards::full};
        for (int i = 0; i < builds.length; i++) {
            LinkfactoryYard x = builds[i].make();
            LinkfactoryYard twin = builds[i].make();
            ask(x);
            check.dueText("P21 to P25 of yard " + i, Yards.shown(x), Yards.shown(twin));
            check.dueText("P21 to P25 of yard " + i + ", later", Yards.later(x), Yards.later(twin));
        }
    }

    private static void ask(LinkfactoryYard x) {
        for (int reach = 5; reach <= 100; reach += 19) {
            x.islandsWith(reach);
        }
        for (int object = 0; object < x.many(0) && object < 8; object++) {
            x.faultsWithout(object);
        }
        for (int size = 1; size <= 200; size += 20) {
            x.place(size);
        }
        for (int patch = 0; patch < x.many(7) && patch < 8; patch++) {
            if (x.ofPatch(patch, 3) == 0) {
                x.backsFor(patch);
            }
        }
        x.digest();
    }
}
