/** Yards to begin with, each built in at most 200 of its 512 calls, and what a yard shows in few calls more. */
final class Yards {
    static final int NONE = -1;

    /** How a yard is built: two yards built in the same way are the same. */
    interface Build {
        LinkfactoryYard make();
    }

    private Yards() {
    }

    static LinkfactoryYard fresh() {
        return new LinkfactoryYard();
    }

    /** Not linked, without a fault: three of four objects would be in, with three islands, 28 words in all. */
    static LinkfactoryYard written() {
        LinkfactoryYard x = new LinkfactoryYard();
        x.object(false);
        x.object(false);
        x.object(true);
        x.object(true);
        x.piece(0, 0, 4, false);
        x.piece(0, 1, 8, false);
        x.piece(1, 2, 6, false);
        x.piece(1, 2, 2, true);
        x.piece(2, 3, 5, false);
        x.piece(3, 9, 1, false);
        x.refer(0, 0, false);
        x.refer(0, 1, true);
        x.refer(0, 3, true);
        x.refer(1, 2, true);
        x.refer(2, 0, true);
        x.refer(4, 0, true);
        x.reach(12);
        return x;
    }

    static LinkfactoryYard linked() {
        LinkfactoryYard x = written();
        x.link();
        return x;
    }

    /** With an image of what was linked before, and two faults now. */
    static LinkfactoryYard faulty() {
        LinkfactoryYard x = linked();
        x.object(false);
        x.piece(4, 0, 1, false);
        x.refer(6, 12, true);
        x.reach(9);
        return x;
    }

    /** Runs 0, 2 and 3; a patch that is done and left a jump, three that wait, and gates, two of which hold. */
    static LinkfactoryYard running() {
        LinkfactoryYard x = linked();
        x.patch(1, 20, 0, 3);
        x.run(0);
        x.call(0, 0);
        x.call(0, 1);
        x.run(2);
        x.run(1);
        x.run(0);
        x.back(1);
        x.patch(0, 3, 1, NONE);
        x.patch(2, 4, 1, 0);
        x.patch(1, 7, 0, 1);
        x.gate(0, true);
        x.gate(1, true);
        x.gate(15, true);
        x.reach(7);
        return x;
    }

    /** All that there can be: 8 objects, 40 pieces, 200 words, 4 runs with 8 in each stack, and 8 patches that wait. */
    static LinkfactoryYard full() {
        LinkfactoryYard x = fullAndLinked();
        for (int run = 0; run < 4; run++) {
            x.run(0);
            for (int i = 1; i < 8; i++) {
                x.call(run, 0);
            }
        }
        for (int patch = 0; patch < 8; patch++) {
            x.patch(0, 1 + patch, patch % 4, 15);
        }
        x.gate(0, true);
        x.gate(5, true);
        return x;
    }

    /** 8 objects with 4 pieces of 6 words and an island each, so that there is no free word; the last one is archived. */
    static LinkfactoryYard fullAndLinked() {
        LinkfactoryYard x = new LinkfactoryYard();
        for (int object = 0; object < 8; object++) {
            x.object(object == 7);
        }
        for (int piece = 0; piece < 32; piece++) {
            int symbol = piece < 28 ? piece % 15 : piece == 28 ? 15 : piece - 16;
            x.piece(piece / 4, symbol, 6, piece >= 15 && piece != 28);
            x.refer(piece, symbol, false);
            x.refer(piece, (symbol + 1) % 16, false);
            int[] farOff = {12, 15, 0, 0, 0, 0, 0, 0};
            x.refer(piece, farOff[piece / 4], piece % 4 == 3);
        }
        x.reach(30);
        x.link();
        return x;
    }

    /** Nine pieces of 20 words for 0 to 8; piece 1 is near to 0, each one far from itself. Only 20 words are free. */
    static LinkfactoryYard tight() {
        LinkfactoryYard x = new LinkfactoryYard();
        x.object(false);
        for (int i = 0; i < 9; i++) {
            x.piece(0, i, 20, false);
            x.refer(i, i, false);
        }
        x.refer(1, 0, true);
        x.link();
        return x;
    }

    /** A group of two has failed: the jump that the first would leave takes a word from the second. */
    static LinkfactoryYard failed() {
        LinkfactoryYard x = tight();
        x.run(0);
        x.patch(0, 20, 1, NONE);
        x.patch(2, 20, 1, NONE);
        x.back(0);
        return x;
    }

    /** What the checksum holds, and what it does not hold: some 50 calls. */
    static String shown(LinkfactoryYard x) {
        StringBuilder told = new StringBuilder();
        int reach = x.reach(5);
        x.reach(reach);
        told.append("reach ").append(reach).append(" gates");
        for (int symbol = 0; symbol < 16; symbol++) {
            boolean isOn = x.gate(symbol, false);
            x.gate(symbol, isOn);
            told.append(isOn ? " on" : " -");
        }
        told.append(" mean ").append(x.meanStack()).append(" islands ").append(x.islandsWith(reach)).append(" without");
        for (int object = 0; object < x.many(0) && object < 8; object++) {
            told.append(' ').append(x.faultsWithout(object));
        }
        return told.append(" digest ").append(x.digest()).toString();
    }

    /** What it shows when all runs have come back, and when it was linked then: some 150 calls. */
    static String later(LinkfactoryYard x) {
        for (int run = 0; run < 4; run++) {
            comeBack(x, run);
        }
        String before = shown(x);
        return before + " faults " + x.link() + " then " + shown(x);
    }

    private static void comeBack(LinkfactoryYard x, int run) {
        try {
            for (int i = 0; i < 8; i++) {
                x.back(run);
            }
        } catch (IndexOutOfBoundsException e) {
            return;
        }
    }
}
