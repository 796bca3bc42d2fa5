/** Boundary cases of promises 15 to 27: length, byteOf, label, lose, cut, damage, resum, shorts, order .. feed. */
public final class LineEdges {
    private static final int MIN = Integer.MIN_VALUE, MAX = Integer.MAX_VALUE;
    // the places of the busy scene's line
    private static final int BYTES = 0, SHORTS = 1, LOST = 2, EMPTY = 3;

    public static void main(String[] args) {
        length();
        byteOf();
        label();
        lose();
        cut();
        cutIsNew();
        damage();
        damageOfSharedRows();
        resum();
        shorts();
        order();
        drop();
        again();
        againIsFull();
        type();
        typeIsFull();
        feed();
        feedIsFull();
        Edge.endPromises(15, 27);
    }

    /** Frames with the labels 10, 11, .. and rows of three bytes: the label, 128, 255. */
    private static VoiceHouse line(int frames) {
        VoiceHouse x = Scene.coder(0);
        for (int i = 0; i < frames; i++) {
            Frames.raw(x, 0, 10 + i, 10 + i, 128, 255);
        }
        return x;
    }

    private static void labels(VoiceHouse x, int... want) {
        Edge.due(x, want.length, "count", 0, 1);
        for (int i = 0; i < want.length; i++) {
            Edge.due(x, want[i], "label", 0, i);
        }
    }

    private static void length() {
        Edge.of(15, "How many bytes, or shorts, the ROW of frame i in the LINE has. BAD: also no such frame; NONE: no "
            + "ROW.");
        Edge.noSuchFrame("length");
        Edge.refused(Scene.BUSY, Edge.NONE, "length", 0, LOST);
        VoiceHouse x = Scene.BUSY.get();
        Edge.due(x, 37, "length", 0, BYTES);
        Edge.due(x, 37, "length", 0, SHORTS);
        Edge.due(x, 0, "length", 0, EMPTY);
        Edge.due(x, 9, "length", 1, 0);
        x.shorts(0, EMPTY);
        Edge.due(x, 0, "length", 0, EMPTY);
        Edge.due(Scene.FULL_LINE.get(), 35, "length", 0, 249);
        Edge.refused(Scene.FULL_LINE, Edge.BAD, "length", 0, 250);
    }

    private static void byteOf() {
        Edge.of(16, "Number k of its ROW, as a byte without sign. BAD; NONE: there is none such.");
        Edge.noSuchFrame("byteOf", 0);
        for (int k : new int[] {-1, 37, MIN, MAX}) {
            Edge.refused(Scene.BUSY, Edge.NONE, "byteOf", 0, BYTES, k);
            Edge.refused(Scene.BUSY, Edge.NONE, "byteOf", 0, SHORTS, k);
        }
        Edge.refused(Scene.BUSY, Edge.NONE, "byteOf", 0, LOST, 0);
        Edge.refused(Scene.BUSY, Edge.NONE, "byteOf", 0, EMPTY, 0);
        VoiceHouse x = Scene.coder(0);
        for (int wide = 0; wide < 2; wide++) {
            Frames.raw(x, 0, 5, 0, 1, 127, 128, 254, 255);
            if (wide == 1) {
                x.shorts(0, 1);
            }
            int[] want = {0, 1, 127, 128, 254, 255};
            for (int k = 0; k < 6; k++) {
                Edge.due(x, want[k], "byteOf", 0, wide, k);
            }
            Edge.refusedOn(x, Edge.NONE, "byteOf", 0, wide, 6);
        }
    }

    private static void label() {
        Edge.of(17, "Its LABEL. BAD.");
        Edge.noSuchFrame("label");
        VoiceHouse x = Scene.coder(0);
        x.feed(0, 65535);
        x.feed(0, 0);
        Edge.due(x, 65535, "label", 0, 0);
        Edge.due(x, 0, "label", 0, 1);
        Edge.due(Scene.BUSY.get(), 0, "label", 0, LOST);
    }

    private static void lose() {
        Edge.of(18, "It has no ROW any more: 1. BAD.");
        Edge.noSuchFrame("lose");
        VoiceHouse x = Scene.BUSY.get();
        for (int i = 0; i < 4; i++) {
            Edge.due(x, 1, "lose", 0, i);
            Edge.refusedOn(x, Edge.NONE, "length", 0, i);
            Edge.refusedOn(x, Edge.NONE, "byteOf", 0, i, 0);
        }
        Edge.due(x, 1, "lose", 0, 3);
        Edge.due(x, 4, "count", 0, 1);
        Edge.due(x, 9, "label", 0, 3);
    }

    private static void cut() {
        Edge.of(19, "BAD; STATE: it has no ROW; BAD: n is below 0, or more.");
        Edge.noSuchFrame("cut", 0);
        for (int n : new int[] {0, 1, -1, MIN, MAX}) {
            Edge.refused(Scene.BUSY, Edge.STATE, "cut", 0, LOST, n);
        }
        for (int n : new int[] {-1, 38, MIN, MAX}) {
            Edge.bad("cut", 0, BYTES, n);
            Edge.bad("cut", 0, SHORTS, n);
        }
        Edge.bad("cut", 0, EMPTY, 1);
        Edge.bad("cut", 0, EMPTY, -1);
        VoiceHouse x = line(1);
        int[] steps = {3, 3, 2, 1, 0, 0};
        int had = 3;
        for (int n : steps) {
            Edge.due(x, had, "cut", 0, 0, n);
            Edge.due(x, n, "length", 0, 0);
            had = n;
        }
        Edge.refusedOn(x, Edge.BAD, "cut", 0, 0, 1);
    }

    private static void cutIsNew() {
        Edge.of(19, "Its ROW is a new one of the first n of it, of its sort: how many it had.");
        VoiceHouse x = line(2);
        x.again(0, 0);
        // a cut that leaves all is a new ROW, too
        Edge.due(x, 3, "cut", 0, 0, 3);
        x.damage(0, 0, 0, 255);
        Edge.due(x, 10, "byteOf", 0, 2, 0);
        Edge.due(x, 245, "byteOf", 0, 0, 0);
        Edge.due(x, 3, "cut", 0, 0, 2);
        Edge.due(x, 128, "byteOf", 0, 0, 1);
        Edge.due(x, 3, "length", 0, 2);
        Edge.due(x, (245 ^ 165), "resum", 0, 0);
        x.shorts(0, 1);
        Edge.due(x, 3, "cut", 0, 1, 3);
        Edge.refusedOn(x, Edge.STATE, "resum", 0, 1);
        Edge.due(x, 3, "cut", 0, 1, 1);
        Edge.due(x, 11, "byteOf", 0, 1, 0);
        Edge.due(x, 1, "cut", 0, 1, 0);
        Edge.refusedOn(x, Edge.STATE, "shorts", 0, 1);
    }

    private static void damage() {
        Edge.of(20, "BAD: also the mask, 1 .. 255; STATE: no ROW; NONE: no number k.");
        Edge.noSuchFrame("damage", 0, 1);
        for (int mask : new int[] {0, 256, -1, MIN, MAX}) {
            Edge.bad("damage", 0, BYTES, 0, mask);
            Edge.bad("damage", 0, LOST, 0, mask);
            Edge.bad("damage", 0, BYTES, 37, mask);
        }
        Edge.refused(Scene.BUSY, Edge.STATE, "damage", 0, LOST, 0, 1);
        Edge.refused(Scene.BUSY, Edge.STATE, "damage", 0, LOST, -1, 255);
        for (int k : new int[] {-1, 37, MIN, MAX}) {
            Edge.refused(Scene.BUSY, Edge.NONE, "damage", 0, BYTES, k, 1);
            Edge.refused(Scene.BUSY, Edge.NONE, "damage", 0, SHORTS, k, 255);
        }
        Edge.refused(Scene.BUSY, Edge.NONE, "damage", 0, EMPTY, 0, 1);
        VoiceHouse x = line(2);
        x.shorts(0, 1);
        for (int i = 0; i < 2; i++) {
            Edge.due(x, 11 - i, "damage", 0, i, 0, 1);
            Edge.due(x, 127, "damage", 0, i, 1, 255);
            Edge.due(x, 255, "damage", 0, i, 1, 128);
            Edge.due(x, 0, "damage", 0, i, 2, 255);
            Edge.due(x, 0, "byteOf", 0, i, 2);
            Edge.due(x, 255, "byteOf", 0, i, 1);
        }
    }

    private static void damageOfSharedRows() {
        Edge.of(20, "Number k of its ROW becomes it by exclusive or with a mask (of a short the lowest eight bits "
            + "alone change): what it is then (as byteOf()).");
        VoiceHouse x = line(1);
        x.again(0, 0);
        x.again(0, 0);
        Edge.due(x, 138, "damage", 0, 1, 0, 128);
        Edge.due(x, 138, "byteOf", 0, 0, 0);
        Edge.due(x, 138, "byteOf", 0, 2, 0);
        Edge.due(x, 1, "shorts", 0, 1);
        x.again(0, 1);
        Edge.due(x, 10, "damage", 0, 3, 0, 128);
        Edge.due(x, 10, "byteOf", 0, 1, 0);
        Edge.due(x, 138, "byteOf", 0, 0, 0);
        Edge.due(x, 1, "damage", 0, 1, 2, 254);
        Edge.due(x, 255, "damage", 0, 1, 2, 254);
    }

    private static void resum() {
        Edge.of(21, "The last byte of its ROW becomes the SUM of those before: it (as byteOf()). BAD; STATE: no ROW, "
            + "one of shorts, or an empty one.");
        Edge.noSuchFrame("resum");
        Edge.refused(Scene.BUSY, Edge.STATE, "resum", 0, LOST);
        Edge.refused(Scene.BUSY, Edge.STATE, "resum", 0, SHORTS);
        Edge.refused(Scene.BUSY, Edge.STATE, "resum", 0, EMPTY);
        VoiceHouse x = line(1);
        x.again(0, 0);
        Edge.due(x, 10 ^ 128 ^ 165, "resum", 0, 0);
        Edge.due(x, 10 ^ 128 ^ 165, "byteOf", 0, 1, 2);
        Edge.due(x, 128, "byteOf", 0, 0, 1);
        Edge.due(x, 10 ^ 128 ^ 165, "resum", 0, 0);
        x.cut(0, 0, 2);
        Edge.due(x, 10 ^ 165, "resum", 0, 0);
        x.cut(0, 0, 1);
        Edge.due(x, 165, "resum", 0, 0);
        Edge.due(x, 165, "byteOf", 0, 0, 0);
        x.cut(0, 0, 0);
        Edge.refusedOn(x, Edge.STATE, "resum", 0, 0);
        x.shorts(0, 0);
        Edge.refusedOn(x, Edge.STATE, "resum", 0, 0);
    }

    private static void shorts() {
        Edge.of(22, "Its ROW is a new one, of shorts, with the same bytes (with their signs): 1. BAD; STATE: no ROW, "
            + "or one of shorts.");
        Edge.noSuchFrame("shorts");
        Edge.refused(Scene.BUSY, Edge.STATE, "shorts", 0, LOST);
        Edge.refused(Scene.BUSY, Edge.STATE, "shorts", 0, SHORTS);
        VoiceHouse x = line(1);
        x.again(0, 0);
        Edge.due(x, 1, "shorts", 0, 0);
        Edge.due(x, 3, "length", 0, 0);
        Edge.due(x, 255, "byteOf", 0, 0, 2);
        Edge.due(x, 128, "byteOf", 0, 0, 1);
        x.damage(0, 0, 2, 1);
        Edge.due(x, 255, "byteOf", 0, 1, 2);
        Edge.due(x, 1, "shorts", 0, 1);
        x.feed(0, 3);
        Edge.due(x, 1, "shorts", 0, 2);
        Edge.due(x, 0, "length", 0, 2);
        Edge.refusedOn(x, Edge.STATE, "shorts", 0, 2);
    }

    private static void order() {
        Edge.of(23, "Frame i goes to place j, others close up: 1. BAD.");
        Edge.noSuchFrame("order", 0);
        for (int j : new int[] {-1, 4, MIN, MAX}) {
            Edge.bad("order", 0, 0, j);
            Edge.bad("order", 0, 3, j);
        }
        VoiceHouse one = line(1);
        Edge.due(one, 1, "order", 0, 0, 0);
        labels(one, 10);
        VoiceHouse x = line(4);
        Edge.due(x, 1, "order", 0, 0, 3);
        labels(x, 11, 12, 13, 10);
        Edge.due(x, 1, "order", 0, 3, 0);
        labels(x, 10, 11, 12, 13);
        Edge.due(x, 1, "order", 0, 3, 3);
        labels(x, 10, 11, 12, 13);
        Edge.due(x, 1, "order", 0, 2, 1);
        labels(x, 10, 12, 11, 13);
        Edge.due(x, 1, "order", 0, 0, 1);
        labels(x, 12, 10, 11, 13);
        VoiceHouse full = Scene.FULL_LINE.get();
        full.drop(0, 0);
        full.feed(0, 77);
        Edge.due(full, 1, "order", 0, 249, 0);
        Edge.due(full, 77, "label", 0, 0);
        Edge.due(full, 1, "order", 0, 0, 249);
        Edge.due(full, 77, "label", 0, 249);
        Edge.due(full, 250, "count", 0, 1);
        Edge.refusedOn(full, Edge.BAD, "order", 0, 0, 250);
    }

    private static void drop() {
        Edge.of(24, "Frame i is gone: how many there are. BAD.");
        Edge.noSuchFrame("drop");
        VoiceHouse x = line(4);
        Edge.due(x, 3, "drop", 0, 3);
        labels(x, 10, 11, 12);
        Edge.due(x, 2, "drop", 0, 0);
        labels(x, 11, 12);
        Edge.due(x, 1, "drop", 0, 0);
        Edge.due(x, 0, "drop", 0, 0);
        Edge.refusedOn(x, Edge.BAD, "drop", 0, 0);
        VoiceHouse full = Scene.FULL_LINE.get();
        Edge.due(full, 249, "drop", 0, 249);
        Edge.refusedOn(full, Edge.BAD, "drop", 0, 249);
        Edge.due(full, 248, "drop", 0, 0);
    }

    private static void again() {
        Edge.of(25, "Once more at the end: frame i's LABEL, and the same ROW: how many there are.");
        Edge.noSuchFrame("again");
        VoiceHouse x = Scene.BUSY.get();
        for (int i = 0; i < 4; i++) {
            Edge.due(x, 5 + i, "again", 0, i);
            Edge.due(x, x.label(0, i), "label", 0, 4 + i);
        }
        Edge.due(x, 37, "length", 0, 4);
        Edge.due(x, 37, "length", 0, 5);
        Edge.refusedOn(x, Edge.STATE, "shorts", 0, 5);
        Edge.refusedOn(x, Edge.NONE, "length", 0, 6);
        Edge.due(x, 0, "length", 0, 7);
        Edge.due(x, x.byteOf(0, 0, 36) ^ 1, "damage", 0, 4, 36, 1);
        Edge.due(x, x.byteOf(0, 4, 36), "byteOf", 0, 0, 36);
        x.lose(0, 4);
        Edge.due(x, 37, "length", 0, 0);
    }

    private static void againIsFull() {
        Edge.of(25, "BAD; FULL.");
        Edge.refused(Scene.FULL_LINE, Edge.FULL, "again", 0, 0);
        Edge.refused(Scene.FULL_LINE, Edge.FULL, "again", 0, 249);
        Edge.refused(Scene.FULL_LINE, Edge.BAD, "again", 0, 250);
        VoiceHouse x = Scene.FULL_LINE.get();
        x.drop(0, 7);
        Edge.due(x, 250, "again", 0, 248);
        Edge.refusedOn(x, Edge.FULL, "again", 0, 0);
    }

    private static void type() {
        Edge.of(26, "The n lowest bytes (1 .. 8) of w, the highest first, come behind the tape: how many it has. BAD;");
        for (int n : new int[] {0, 9, -1, MIN, MAX}) {
            Edge.bad("type", 5, n);
        }
        VoiceHouse x = Scene.coder(0);
        Edge.due(x, 1, "type", 0x1112131415161780L, 1);
        Edge.due(x, 9, "type", Long.MIN_VALUE, 8);
        Edge.due(x, 10, "type", -1L, 1);
        Edge.due(x, 17, "type", 0x8182838485868788L, 7);
        Edge.due(x, 1, "feed", 0, 0);
        int[] want = {0x80, 0x80, 0, 0, 0, 0, 0, 0, 0, 0xff, 0x82, 0x83, 0x84, 0x85, 0x86, 0x87, 0x88};
        for (int k = 0; k < want.length; k++) {
            Edge.due(x, want[k], "byteOf", 0, 0, k);
        }
    }

    private static void typeIsFull() {
        Edge.of(26, "FULL: 64.");
        Edge.refused(Scene.FULL_TAPE, Edge.FULL, "type", 5, 1);
        Edge.refused(Scene.FULL_TAPE, Edge.FULL, "type", 5, 8);
        Edge.refused(Scene.FULL_TAPE, Edge.BAD, "type", 5, 9);
        Edge.refused(Scene.FULL_TAPE, Edge.BAD, "type", 5, 0);
        VoiceHouse x = Scene.coder(0);
        for (int n = 8; n <= 56; n += 8) {
            Edge.due(x, n, "type", 5, 8);
        }
        Edge.due(x, 57, "type", 5, 1);
        Edge.refusedOn(x, Edge.FULL, "type", 5, 8);
        Edge.due(x, 57, "told", 1);
        Edge.due(x, 64, "type", 5, 7);
        Edge.refusedOn(x, Edge.FULL, "type", 5, 1);
        Edge.due(x, 1, "feed", 0, 0);
        Edge.due(x, 64, "length", 0, 0);
        Edge.due(x, 8, "type", 5, 8);
    }

    private static void feed() {
        Edge.of(27, "The tape, which is empty then, is the ROW of a frame at the end of the LINE, with a LABEL (0 .. "
            + "65535): how many there are. BAD;");
        Edge.noSuchCoder("feed", 5);
        for (int label : new int[] {-1, 65536, MIN, MAX}) {
            Edge.bad("feed", 0, label);
        }
        VoiceHouse x = Scene.coder(0);
        x.type(200, 1);
        Edge.due(x, 1, "feed", 0, 65535);
        Edge.due(x, 0, "told", 1);
        Edge.due(x, 2, "feed", 0, 0);
        Edge.due(x, 0, "length", 0, 1);
        Edge.due(x, 1, "length", 0, 0);
        x.type(7, 1);
        Edge.due(x, 200, "byteOf", 0, 0, 0);
        x.again(0, 0);
        Edge.due(x, 4, "feed", 0, 65535);
        Edge.due(x, 7, "byteOf", 0, 3, 0);
        Edge.due(x, 200, "byteOf", 0, 2, 0);
    }

    private static void feedIsFull() {
        Edge.of(27, "BAD; FULL.");
        Edge.refused(Scene.FULL_LINE, Edge.FULL, "feed", 0, 5);
        Edge.refused(Scene.FULL_LINE, Edge.BAD, "feed", 0, 65536);
        VoiceHouse x = Scene.FULL_LINE.get();
        x.drop(0, 0);
        Edge.due(x, 250, "feed", 0, 5);
        Edge.due(x, 5, "byteOf", 0, 249, 0);
        Edge.refusedOn(x, Edge.FULL, "feed", 0, 5);
    }
}
