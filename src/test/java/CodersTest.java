/** Promises 1 to 8: a new object, coder, rate, emphasis, search, silence, redundancy, start. */
public final class CodersTest {
    private static final int BAD = -1, STATE = -2, FULL = -3, NONE = -4, NO = -2147483648;

    public static void main(String[] args) {
        newObject();
        coder();
        freshCoder();
        rate();
        emphasis();
        emphasisAcrossFrames();
        search();
        silence();
        redundancy();
        start();
        startIsRefused();
        Check.end();
    }

    private static void newObject() {
        Check.under(Document.promise(1));
        VoiceHouse x = new VoiceHouse();
        Check.due("status() of a new object", x.status(), 0);
        for (int what = 0; what <= 3; what++) {
            Check.due("told(" + what + ") of a new object", x.told(what), 0);
        }
        Check.due("work(0) of a new object", x.work(0), NO);
        Check.due("trace(0) of a new object", x.trace(0), NONE);
        Check.due("saturations() of a new object", x.saturations(), 0);
        for (int kind = 1; kind <= 7; kind++) {
            Check.due("found(" + kind + ") of a new object", x.found(kind), 0);
        }
        x.coder(0);
        Check.due("feed() of an empty tape", x.feed(0, 0), 1);
        Check.due("length() of it", x.length(0, 0), 0);
    }

    private static void coder() {
        Check.under(Document.promise(2));
        VoiceHouse x = new VoiceHouse();
        Check.due("coder(-1)", x.coder(-1), BAD);
        Check.due("coder(2)", x.coder(2), BAD);
        Check.due("status()", x.status(), BAD);
        Check.due("told(0)", x.told(0), 0);
        for (int c = 0; c < 8; c++) {
            Check.due("coder " + c, x.coder(c % 2), c);
        }
        Check.due("a ninth coder", x.coder(0), FULL);
        Check.due("status()", x.status(), FULL);
        Check.due("a ninth coder of no rate: BAD is named first", x.coder(2), BAD);
        Check.due("told(0)", x.told(0), 8);
        Check.due("count(7, 0)", x.count(7, 0), 0);
        Check.due("count(8, 0)", x.count(8, 0), BAD);
    }

    private static void freshCoder() {
        Check.under(Document.promise(2));
        VoiceHouse x = new VoiceHouse();
        x.coder(1);
        for (int what = 0; what <= 9; what++) {
            Check.due("count(0, " + what + ") of a new coder", x.count(0, what), 0);
        }
        Check.due("rate", x.rate(0, 1), 1);
        Check.due("emphasis", x.emphasis(0, false), 0);
        Check.due("pitch search", x.search(0, 0, 0), 0);
        Check.due("pulse search", x.search(0, 1, 0), 0);
        Check.due("level", x.silence(0, 0), 0);
        Check.due("redundancy", x.redundancy(0, false), 0);
        Check.due("bound", x.join(0, 2000), 2000);
        Check.due("drift", x.drift(0, 0), 0);
        for (int place = 0; place < 4; place++) {
            Check.due("filter", x.stage(0, place, 0), 0);
        }
        for (int side = 0; side < 2; side++) {
            Check.due("H(0)", x.state(0, side, 0, 0), 0);
            Check.due("LAG", x.state(0, side, 3, 0), 40);
        }
    }

    private static void rate() {
        Check.under(Document.promise(3));
        VoiceHouse x = new VoiceHouse();
        x.coder(0);
        Check.due("rate(0, 1)", x.rate(0, 1), 0);
        Check.due("rate(0, 2)", x.rate(0, 2), BAD);
        Check.due("rate(0, -1)", x.rate(0, -1), BAD);
        Check.due("rate(1, 0)", x.rate(1, 0), BAD);
        Check.due("rate(-1, 0)", x.rate(-1, 0), BAD);
        x.silence(0, 32769);
        x.wave(0, 0, 9, 0, 320);
        x.wave(0, 0, 9, 0, 320);
        Check.due("encode at rate 1", x.encode(0), 0);
        Check.due("320 samples less", x.count(0, 0), 320);
        Check.due("rate(0, 0)", x.rate(0, 0), 1);
        Check.due("encode at rate 0", x.encode(0), 1);
        Check.due("160 samples less", x.count(0, 0), 160);
        Check.due("RATE of the first frame", x.byteOf(0, 0, 1), 1);
        Check.due("RATE of the second frame", x.byteOf(0, 1, 1), 0);
        Check.due("decode", x.decode(0), 320);
        Check.due("decode", x.decode(0), 160);
    }

    /** A constant of 10000 becomes 10000 - HALF(10000, 22282) = 10000 - 6800 = 3200 behind its first sample. */
    private static void emphasis() {
        Check.under(Document.promise(4));
        VoiceHouse x = new VoiceHouse();
        x.coder(0);
        Check.due("emphasis(1)", x.emphasis(1, true), BAD);
        Check.due("emphasis(-1)", x.emphasis(-1, true), BAD);
        Check.due("emphasis(0, true)", x.emphasis(0, true), 0);
        Check.due("emphasis(0, true)", x.emphasis(0, true), 1);
        x.silence(0, 32769);
        x.wave(0, 0, 10000, 0, 320);
        x.encode(0);
        x.encode(0);
        Check.due("PEAK, high byte", x.byteOf(0, 0, 6), 10000 / 256);
        Check.due("PEAK, low byte", x.byteOf(0, 0, 7), 10000 % 256);
        Check.due("PEAK of the second, high byte", x.byteOf(0, 1, 6), 3200 / 256);
        Check.due("PEAK of the second, low byte", x.byteOf(0, 1, 7), 3200 % 256);
        Check.due("emphasis(0, false)", x.emphasis(0, false), 1);
        Check.due("emphasis(0, false)", x.emphasis(0, false), 0);
    }

    /** The last sample is kept as it came, by frames without EMPHASIS too; and S counts. */
    private static void emphasisAcrossFrames() {
        Check.under(Document.promise(4));
        VoiceHouse x = new VoiceHouse();
        x.coder(0);
        x.silence(0, 32769);
        x.wave(0, 0, -32768, 0, 160);
        x.encode(0);
        x.emphasis(0, true);
        x.wave(0, 0, 32767, 0, 1);
        x.wave(0, 0, 0, 0, 159);
        Check.due("saturations before", x.saturations(), 0);
        x.encode(0);
        Check.due("32767 + 22282 is cut", x.saturations(), 1);
        Check.due("PEAK is 32767, high byte", x.byteOf(0, 1, 6), 127);
        Check.due("PEAK is 32767, low byte", x.byteOf(0, 1, 7), 255);
    }

    private static void search() {
        Check.under(Document.promise(5));
        VoiceHouse x = new VoiceHouse();
        x.coder(0);
        Check.due("search(0, 0, 1)", x.search(0, 0, 1), 0);
        Check.due("search(0, 1, 0)", x.search(0, 1, 0), 0);
        Check.due("search(0, 0, 1)", x.search(0, 0, 1), 1);
        int[][] bad = {{1, 0, 0}, {-1, 0, 0}, {0, 2, 0}, {0, -1, 0}, {0, 0, 2}, {0, 0, -1}};
        for (int[] b : bad) {
            Check.due("a bad search", x.search(b[0], b[1], b[2]), BAD);
        }
        x.wave(0, 3, 50, 9000, 160);
        x.encode(0);
        Check.due("WHOLE pitch", x.trace(3), 11);
        Check.due("NESTED pulses", x.trace(4), 12);
        x.search(0, 0, 0);
        Check.due("search(0, 1, 1)", x.search(0, 1, 1), 0);
        x.wave(0, 3, 50, 9000, 160);
        x.encode(0);
        Check.due("NESTED pitch", x.trace(3), 10);
        Check.due("WHOLE pulses", x.trace(4), 13);
        for (int part = 0; part < 4; part++) {
            Check.due("a WHOLE search costs the least", x.cost(0, part, 1, false), x.cost(0, part, 1, true));
            Check.isTrue("a NESTED one not less", x.cost(0, part, 0, false) >= x.cost(0, part, 0, true));
        }
    }

    private static void silence() {
        Check.under(Document.promise(6));
        VoiceHouse x = new VoiceHouse();
        x.coder(0);
        Check.due("silence(0, 32769)", x.silence(0, 32769), 0);
        Check.due("silence(0, 32770)", x.silence(0, 32770), BAD);
        Check.due("silence(0, -1)", x.silence(0, -1), BAD);
        Check.due("silence(1, 0)", x.silence(1, 0), BAD);
        x.wave(0, 0, -32768, 0, 160);
        x.encode(0);
        Check.due("a PEAK of 32768 below 32769", x.byteOf(0, 0, 0), 2);
        Check.due("its PEAK, high byte", x.byteOf(0, 0, 6), 128);
        Check.due("its PEAK, low byte", x.byteOf(0, 0, 7), 0);
        Check.due("silence(0, 100)", x.silence(0, 100), 32769);
        x.wave(0, 0, -100, 0, 160);
        x.encode(0);
        Check.due("a PEAK of 100 is VOICE at LEVEL 100", x.byteOf(0, 1, 0), 1);
        x.wave(0, 0, -99, 0, 160);
        x.encode(0);
        Check.due("a PEAK of 99 is SILENCE at LEVEL 100", x.byteOf(0, 2, 0), 2);
        Check.due("silence(0, 0)", x.silence(0, 0), 100);
        x.wave(0, 0, 0, 0, 160);
        x.encode(0);
        Check.due("a PEAK of 0 is VOICE at LEVEL 0", x.byteOf(0, 3, 0), 1);
    }

    private static void redundancy() {
        Check.under(Document.promise(7));
        VoiceHouse x = new VoiceHouse();
        x.coder(0);
        Check.due("redundancy(1)", x.redundancy(1, true), BAD);
        Check.due("redundancy(0, true)", x.redundancy(0, true), 0);
        x.silence(0, 50);
        x.wave(0, 4, 37, 9000, 160);
        x.encode(0);
        Check.due("nothing before: no REDUNDANCY", x.byteOf(0, 0, 5), 0);
        int lag = x.pick(0, 3, 0);
        int p = x.pick(0, 3, 1);
        x.wave(0, 0, 10, 0, 160);
        x.encode(0);
        Check.due("SILENCE behind VOICE", x.length(0, 1), 11);
        Check.due("has two bytes", x.byteOf(0, 1, 5), 2);
        Check.due("the lag", x.byteOf(0, 1, 8), lag - 20);
        Check.due("and p", x.byteOf(0, 1, 9), p);
        x.wave(0, 4, 37, 9000, 160);
        x.encode(0);
        Check.due("VOICE behind SILENCE has none", x.length(0, 2), 35);
        lag = x.pick(0, 3, 0);
        p = x.pick(0, 3, 1);
        x.wave(0, 4, 61, 20000, 160);
        x.encode(0);
        Check.due("VOICE behind VOICE", x.length(0, 3), 37);
        Check.due("the lag of the one before", x.byteOf(0, 3, 34), lag - 20);
        Check.due("and its p", x.byteOf(0, 3, 35), p);
        Check.due("redundancy(0, false)", x.redundancy(0, false), 1);
        x.wave(0, 4, 61, 20000, 160);
        x.encode(0);
        Check.due("without it", x.length(0, 4), 35);
        Check.due("redundancy(0, false)", x.redundancy(0, false), 0);
    }

    private static void start() {
        Check.under(Document.promise(8));
        VoiceHouse x = new VoiceHouse();
        x.coder(0);
        Check.due("start(0, 65535)", x.start(0, 65535), 1);
        Check.due("NEXT", x.count(0, 2), 65535);
        Check.due("NUMBER", x.count(0, 3), 65535);
        Check.due("start(0, 300)", x.start(0, 300), 1);
        Check.due("start(0, -1)", x.start(0, -1), BAD);
        Check.due("start(0, 65536)", x.start(0, 65536), BAD);
        Check.due("start(1, 0)", x.start(1, 0), BAD);
        Check.due("NUMBER", x.count(0, 3), 300);
        x.start(0, 65535);
        x.wave(0, 0, 5, 0, 320);
        Check.due("encode()", x.encode(0), 65535);
        Check.due("0 comes behind 65535", x.encode(0), 0);
        Check.due("the high byte of NUMBER", x.byteOf(0, 0, 3), 255);
        Check.due("the low byte of NUMBER", x.byteOf(0, 0, 4), 255);
        x.decode(0);
        Check.due("NEXT", x.count(0, 2), 0);
    }

    private static void startIsRefused() {
        Check.under(Document.promise(8));
        VoiceHouse x = new VoiceHouse();
        x.coder(0);
        x.feed(0, 7);
        Check.due("start() with a frame in the line", x.start(0, 1), STATE);
        Check.due("BAD is named first", x.start(0, -1), BAD);
        x.drop(0, 0);
        Check.due("start() with an empty line", x.start(0, 9), 1);
        x.wave(0, 0, 5, 0, 160);
        x.encode(0);
        x.drop(0, 0);
        Check.due("start() behind encode()", x.start(0, 1), STATE);
        x.coder(0);
        x.feed(1, 0);
        x.decode(1);
        Check.due("the line is empty", x.count(1, 1), 0);
        Check.due("start() behind decode()", x.start(1, 1), STATE);
        Check.due("status()", x.status(), STATE);
        Check.due("NUMBER stays", x.count(1, 3), 0);
    }
}
