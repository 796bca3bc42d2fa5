/** Promises 15 to 27: length, byteOf, label, lose, cut, damage, resum, shorts, order, drop, again, type, feed. */
public final class LineTest {
    private static final int BAD = -1, STATE = -2, FULL = -3, NONE = -4;

    public static void main(String[] args) {
        reading();
        lose();
        cut();
        damage();
        resum();
        shorts();
        order();
        drop();
        again();
        type();
        feed();
        Check.end();
    }

    /** Frames 0, 1, .. in the line, with the labels 10, 11, .. and rows of three bytes: the label, 128, 255. */
    private static VoiceHouse line(int frames) {
        VoiceHouse x = new VoiceHouse();
        x.coder(0);
        for (int i = 0; i < frames; i++) {
            x.type((10 + i) * 65536L + 128 * 256 + 255, 3);
            x.feed(0, 10 + i);
        }
        return x;
    }

    private static void reading() {
        Check.under("Promises 15 to 17");
        VoiceHouse x = line(2);
        Check.due("length(0, 1)", x.length(0, 1), 3);
        Check.due("length(0, 2)", x.length(0, 2), BAD);
        Check.due("length(0, -1)", x.length(0, -1), BAD);
        Check.due("length(1, 0)", x.length(1, 0), BAD);
        Check.due("byteOf(0, 1, 0)", x.byteOf(0, 1, 0), 11);
        Check.due("byteOf(0, 1, 1)", x.byteOf(0, 1, 1), 128);
        Check.due("byteOf(0, 1, 2)", x.byteOf(0, 1, 2), 255);
        Check.due("status()", x.status(), 0);
        Check.due("byteOf(0, 1, 3)", x.byteOf(0, 1, 3), NONE);
        Check.due("status()", x.status(), NONE);
        Check.due("byteOf(0, 1, -1)", x.byteOf(0, 1, -1), NONE);
        Check.due("byteOf(0, 2, 0)", x.byteOf(0, 2, 0), BAD);
        Check.due("byteOf(-1, 0, 0)", x.byteOf(-1, 0, 0), BAD);
        Check.due("label(0, 1)", x.label(0, 1), 11);
        Check.due("label(0, 2)", x.label(0, 2), BAD);
        Check.due("label(0, -1)", x.label(0, -1), BAD);
        Check.due("label(1, 0)", x.label(1, 0), BAD);
    }

    private static void lose() {
        Check.under(Document.promise(18));
        VoiceHouse x = line(2);
        Check.due("lose(0, 2)", x.lose(0, 2), BAD);
        Check.due("lose(1, 0)", x.lose(1, 0), BAD);
        Check.due("lose(0, 0)", x.lose(0, 0), 1);
        Check.due("length(0, 0)", x.length(0, 0), NONE);
        Check.due("status()", x.status(), NONE);
        Check.due("byteOf(0, 0, 0)", x.byteOf(0, 0, 0), NONE);
        Check.due("label(0, 0)", x.label(0, 0), 10);
        Check.due("lose(0, 0) again", x.lose(0, 0), 1);
        Check.due("the other one", x.length(0, 1), 3);
        x.shorts(0, 1);
        Check.due("lose() of shorts", x.lose(0, 1), 1);
        Check.due("length(0, 1)", x.length(0, 1), NONE);
    }

    private static void cut() {
        Check.under(Document.promise(19));
        VoiceHouse x = line(2);
        x.again(0, 0);
        Check.due("cut(0, 3, 0)", x.cut(0, 3, 0), BAD);
        Check.due("cut(1, 0, 0)", x.cut(1, 0, 0), BAD);
        Check.due("cut(0, 0, 4)", x.cut(0, 0, 4), BAD);
        Check.due("cut(0, 0, -1)", x.cut(0, 0, -1), BAD);
        Check.due("cut(0, 0, 3)", x.cut(0, 0, 3), 3);
        Check.due("cut(0, 0, 2)", x.cut(0, 0, 2), 3);
        Check.due("length", x.length(0, 0), 2);
        Check.due("byteOf(0, 0, 1)", x.byteOf(0, 0, 1), 128);
        Check.due("the same ROW before is another now", x.length(0, 2), 3);
        x.damage(0, 0, 0, 1);
        Check.due("and keeps its bytes", x.byteOf(0, 2, 0), 10);
        x.shorts(0, 1);
        Check.due("cut() of shorts", x.cut(0, 1, 0), 3);
        Check.due("is of shorts", x.resum(0, 1), STATE);
        Check.due("so shorts() is refused", x.shorts(0, 1), STATE);
        x.lose(0, 0);
        Check.due("cut() without a ROW", x.cut(0, 0, -1), STATE);
    }

    private static void damage() {
        Check.under(Document.promise(20));
        VoiceHouse x = line(2);
        x.again(0, 0);
        int[][] bad = {{1, 0, 0, 1}, {-1, 0, 0, 1}, {0, 3, 0, 1}, {0, -1, 0, 1}, {0, 0, 0, 0}, {0, 0, 0, 256},
            {0, 0, 0, -1}};
        for (int[] b : bad) {
            Check.due("a bad damage", x.damage(b[0], b[1], b[2], b[3]), BAD);
        }
        Check.due("damage(0, 0, 0, 255)", x.damage(0, 0, 0, 255), 245);
        Check.due("byteOf(0, 0, 0)", x.byteOf(0, 0, 0), 245);
        Check.due("the same ROW", x.byteOf(0, 2, 0), 245);
        Check.due("damage(0, 0, 3, 1)", x.damage(0, 0, 3, 1), NONE);
        Check.due("status()", x.status(), NONE);
        Check.due("damage(0, 0, -1, 1)", x.damage(0, 0, -1, 1), NONE);
        x.shorts(0, 1);
        Check.due("damage() of a short", x.damage(0, 1, 1, 255), 127);
        Check.due("once more", x.damage(0, 1, 1, 129), 254);
        x.lose(0, 0);
        Check.due("without a ROW", x.damage(0, 0, 9, 1), STATE);
        Check.due("BAD is named first", x.damage(0, 0, 9, 0), BAD);
        Check.due("the other one has its ROW", x.byteOf(0, 2, 0), 245);
    }

    private static void resum() {
        Check.under(Document.promise(21));
        VoiceHouse x = line(2);
        x.again(0, 0);
        Check.due("resum(0, 3)", x.resum(0, 3), BAD);
        Check.due("resum(1, 0)", x.resum(1, 0), BAD);
        Check.due("resum(0, 0)", x.resum(0, 0), 10 ^ 128 ^ 165);
        Check.due("byteOf(0, 0, 2)", x.byteOf(0, 0, 2), 10 ^ 128 ^ 165);
        Check.due("the same ROW", x.byteOf(0, 2, 2), 10 ^ 128 ^ 165);
        Check.due("resum(0, 0) again", x.resum(0, 0), 10 ^ 128 ^ 165);
        x.cut(0, 0, 1);
        Check.due("of none before", x.resum(0, 0), 165);
        x.cut(0, 0, 0);
        Check.due("of an empty ROW", x.resum(0, 0), STATE);
        x.lose(0, 0);
        Check.due("without a ROW", x.resum(0, 0), STATE);
        x.shorts(0, 1);
        Check.due("of shorts", x.resum(0, 1), STATE);
        Check.due("status()", x.status(), STATE);
    }

    private static void shorts() {
        Check.under(Document.promise(22));
        VoiceHouse x = line(2);
        x.again(0, 0);
        Check.due("shorts(0, 3)", x.shorts(0, 3), BAD);
        Check.due("shorts(-1, 0)", x.shorts(-1, 0), BAD);
        Check.due("shorts(0, 0)", x.shorts(0, 0), 1);
        Check.due("length", x.length(0, 0), 3);
        Check.due("byteOf(0, 0, 2)", x.byteOf(0, 0, 2), 255);
        Check.due("shorts(0, 0) again", x.shorts(0, 0), STATE);
        x.damage(0, 0, 0, 1);
        Check.due("a new ROW: the old one stays", x.byteOf(0, 2, 0), 10);
        Check.due("of bytes", x.resum(0, 2), 10 ^ 128 ^ 165);
        x.lose(0, 1);
        Check.due("without a ROW", x.shorts(0, 1), STATE);
        x.cut(0, 2, 0);
        Check.due("of an empty ROW", x.shorts(0, 2), 1);
    }

    private static void labels(VoiceHouse x, int... want) {
        Check.due("frames", x.count(0, 1), want.length);
        for (int i = 0; i < want.length; i++) {
            Check.due("label(0, " + i + ")", x.label(0, i), want[i]);
        }
    }

    private static void order() {
        Check.under(Document.promise(23));
        VoiceHouse x = line(4);
        Check.due("order(0, 0, 4)", x.order(0, 0, 4), BAD);
        Check.due("order(0, 4, 0)", x.order(0, 4, 0), BAD);
        Check.due("order(0, -1, 0)", x.order(0, -1, 0), BAD);
        Check.due("order(0, 0, -1)", x.order(0, 0, -1), BAD);
        Check.due("order(1, 0, 0)", x.order(1, 0, 0), BAD);
        labels(x, 10, 11, 12, 13);
        Check.due("order(0, 0, 2)", x.order(0, 0, 2), 1);
        labels(x, 11, 12, 10, 13);
        Check.due("order(0, 3, 0)", x.order(0, 3, 0), 1);
        labels(x, 13, 11, 12, 10);
        Check.due("order(0, 1, 1)", x.order(0, 1, 1), 1);
        labels(x, 13, 11, 12, 10);
        Check.due("order(0, 0, 3)", x.order(0, 0, 3), 1);
        labels(x, 11, 12, 10, 13);
        Check.due("the ROW goes along", x.byteOf(0, 3, 0), 13);
    }

    private static void drop() {
        Check.under(Document.promise(24));
        VoiceHouse x = line(3);
        Check.due("drop(0, 3)", x.drop(0, 3), BAD);
        Check.due("drop(0, -1)", x.drop(0, -1), BAD);
        Check.due("drop(1, 0)", x.drop(1, 0), BAD);
        Check.due("drop(0, 1)", x.drop(0, 1), 2);
        labels(x, 10, 12);
        Check.due("drop(0, 1)", x.drop(0, 1), 1);
        Check.due("drop(0, 0)", x.drop(0, 0), 0);
        Check.due("drop(0, 0)", x.drop(0, 0), BAD);
        Check.due("LATE counts no dropped one", x.count(0, 6), 0);
    }

    private static void again() {
        Check.under(Document.promise(25));
        VoiceHouse x = line(2);
        Check.due("again(0, 2)", x.again(0, 2), BAD);
        Check.due("again(1, 0)", x.again(1, 0), BAD);
        Check.due("again(0, 0)", x.again(0, 0), 3);
        labels(x, 10, 11, 10);
        x.damage(0, 2, 0, 255);
        Check.due("the same ROW", x.byteOf(0, 0, 0), 245);
        x.lose(0, 0);
        Check.due("its own loss", x.length(0, 2), 3);
        Check.due("again() without a ROW", x.again(0, 0), 4);
        Check.due("has none", x.length(0, 3), NONE);
        for (int n = 5; n <= 250; n++) {
            Check.due("again", x.again(0, 1), n);
        }
        Check.due("the 251st", x.again(0, 1), FULL);
        Check.due("status()", x.status(), FULL);
        Check.due("BAD is named first", x.again(0, 250), BAD);
        Check.due("order() in a full line", x.order(0, 249, 0), 1);
        Check.due("label(0, 0)", x.label(0, 0), 11);
        Check.due("label(0, 249)", x.label(0, 249), 11);
        Check.due("count", x.count(0, 1), 250);
    }

    private static void type() {
        Check.under(Document.promise(26));
        VoiceHouse x = new VoiceHouse();
        x.coder(0);
        Check.due("type(1, 0)", x.type(1, 0), BAD);
        Check.due("type(1, 9)", x.type(1, 9), BAD);
        Check.due("type(1, -1)", x.type(1, -1), BAD);
        Check.due("type 8", x.type(0x8182838485868788L, 8), 8);
        Check.due("type 3", x.type(0x1112131415161718L, 3), 11);
        Check.due("told(1)", x.told(1), 11);
        x.feed(0, 0);
        int[] want = {0x81, 0x82, 0x83, 0x84, 0x85, 0x86, 0x87, 0x88, 0x16, 0x17, 0x18};
        for (int k = 0; k < want.length; k++) {
            Check.due("byte " + k, x.byteOf(0, 0, k), want[k]);
        }
        for (int n = 1; n <= 7; n++) {
            Check.due("type", x.type(-1, 8), 8 * n);
        }
        Check.due("type 7", x.type(-1, 7), 63);
        Check.due("not all", x.type(-1, 2), FULL);
        Check.due("status()", x.status(), FULL);
        Check.due("BAD is named first", x.type(-1, 9), BAD);
        Check.due("none of them", x.told(1), 63);
        Check.due("the 64th", x.type(-1, 1), 64);
        Check.due("the 65th", x.type(-1, 1), FULL);
    }

    private static void feed() {
        Check.under(Document.promise(27));
        VoiceHouse x = new VoiceHouse();
        x.coder(0);
        x.type(5, 1);
        Check.due("feed(0, 65536)", x.feed(0, 65536), BAD);
        Check.due("feed(0, -1)", x.feed(0, -1), BAD);
        Check.due("feed(1, 0)", x.feed(1, 0), BAD);
        Check.due("the tape stays", x.told(1), 1);
        Check.due("feed(0, 65535)", x.feed(0, 65535), 1);
        Check.due("the tape is empty", x.told(1), 0);
        Check.due("label", x.label(0, 0), 65535);
        x.type(6, 1);
        Check.due("a ROW of its own", x.byteOf(0, 0, 0), 5);
        for (int n = 2; n <= 250; n++) {
            x.again(0, 0);
        }
        Check.due("a full line", x.feed(0, 0), FULL);
        Check.due("the tape stays", x.told(1), 1);
        Check.due("BAD is named first", x.feed(0, -1), BAD);
        x.drop(0, 0);
        Check.due("room again", x.feed(0, 0), 250);
        Check.due("the last one", x.byteOf(0, 249, 0), 6);
    }
}
