/** Promises 39 to 46: trace, count, found, saturations, digest, status, told, clear. */
public final class ToldTest {
    private static final int BAD = -1, STATE = -2, FULL = -3, NONE = -4, WRONG = -5, NO = -2147483648;

    public static void main(String[] args) {
        traceOfEncode();
        traceIsOfTheLatest();
        counts();
        found();
        saturations();
        digest();
        status();
        refusedCallsChangeNothing();
        told();
        clear();
        clearKeepsCounts();
        Check.end();
    }

    private static VoiceHouse house() {
        VoiceHouse x = new VoiceHouse();
        x.coder(0);
        return x;
    }

    private static void traced(VoiceHouse x, int... want) {
        Check.due("numbers of TRACE", x.told(2), want.length);
        for (int k = 0; k < want.length; k++) {
            Check.due("trace(" + k + ")", x.trace(k), want[k]);
        }
        Check.due("no more", x.trace(want.length), NONE);
        Check.due("status()", x.status(), NONE);
        Check.due("trace(-1)", x.trace(-1), NONE);
    }

    private static void traceOfEncode() {
        Check.under(Document.promise(39));
        VoiceHouse x = house();
        traced(x);
        x.wave(0, 0, 100, 0, 160);
        x.encode(0);
        traced(x, 1, 3, 4, 10, 12, 14, 10, 12, 14, 10, 12, 14, 10, 12, 14, 15);
        x.search(0, 0, 1);
        x.search(0, 1, 1);
        x.wave(0, 0, 100, 0, 160);
        x.encode(0);
        traced(x, 1, 3, 4, 11, 13, 14, 11, 13, 14, 11, 13, 14, 11, 13, 14, 15);
        x.silence(0, 101);
        x.wave(0, 0, 100, 0, 160);
        x.encode(0);
        traced(x, 1, 2, 14, 15);
    }

    private static void traceIsOfTheLatest() {
        Check.under(Document.promise(39));
        VoiceHouse x = house();
        x.coder(0);
        x.wave(0, 0, 100, 0, 160);
        x.encode(0);
        x.encode(0);
        x.decode(1);
        x.mix(0, 0, 1, 1);
        x.cost(0, 0, 0, true);
        Check.due("refused calls leave it", x.told(2), 16);
        x.feed(1, 5);
        x.decode(1);
        traced(x, 37, 42, 60);
    }

    private static void counts() {
        Check.under(Document.promise(40));
        VoiceHouse x = house();
        Check.due("count(0, -1)", x.count(0, -1), BAD);
        Check.due("count(0, 10)", x.count(0, 10), BAD);
        Check.due("count(1, 0)", x.count(1, 0), BAD);
        Check.due("count(-1, 0)", x.count(-1, 0), BAD);
        x.start(0, 40);
        x.redundancy(0, true);
        x.wave(0, 4, 37, 9000, 320);
        x.wave(0, 4, 37, 9000, 320);
        x.encode(0);
        x.encode(0);
        x.encode(0);
        x.sample(0, 1);
        x.feed(0, 39);
        x.lose(0, 0);
        x.decode(0);
        int[] want = {161, 2, 41, 43, 3, 1, 1, 1, 1, 0};
        for (int what = 0; what <= 9; what++) {
            Check.due("count(0, " + what + ")", x.count(0, what), want[what]);
        }
        x.decode(0);
        x.drop(0, 0);
        x.decode(0);
        int[] then = {161, 0, 43, 43, 3, 3, 1, 2, 1, 0};
        for (int what = 0; what <= 9; what++) {
            Check.due("count(0, " + what + ") then", x.count(0, what), then[what]);
        }
    }

    private static void found() {
        Check.under(Document.promise(41));
        VoiceHouse x = house();
        x.coder(0);
        Check.due("found(0)", x.found(0), BAD);
        Check.due("found(8)", x.found(8), BAD);
        Check.due("found(-1)", x.found(-1), BAD);
        for (int c = 0; c < 2; c++) {
            x.feed(c, 0);
            x.decode(c);
            x.decode(c);
        }
        Check.due("of all coders", x.found(3), 2);
        Check.due("a decode() of an empty line, NEXT ahead", x.found(7), 2);
        Check.due("found(1)", x.found(1), 0);
    }

    /** G(51) is 28672: an even and an odd pulse beside one another are 28672, 43008 (cut), 7168, -7168. */
    private static void saturations() {
        Check.under(Document.promise(42));
        VoiceHouse x = house();
        Frames.sealed(x, 0, 0, Frames.with(Frames.voice(4, 4), 18, 51));
        x.decode(0);
        Check.due("out(0, 5)", x.out(0, 5), 32767);
        Check.due("one S", x.saturations(), 1);
        Check.due("status()", x.status(), 0);
        Frames.sealed(x, 0, 1, Frames.with(Frames.voice(5, 5), 18, 51, 33, 51));
        x.decode(0);
        Check.due("out(0, 5)", x.out(0, 5), -32768);
        Check.due("two more", x.saturations(), 3);
    }

    private static void digest() {
        Check.under(Document.promise(43));
        VoiceHouse x = house();
        int d = 7;
        for (int k = 0; k < 176; k++) {
            d = 31 * d;
        }
        Check.due("digest() of 0 and LAG 40", x.digest(0, 0), 31 * d + 40);
        Check.due("digest() of the STATE", x.digest(0, 1), 31 * d + 40);
        Check.due("digest(1, 0)", x.digest(1, 0), 0);
        Check.due("status()", x.status(), BAD);
        Check.due("digest(0, 2)", x.digest(0, 2), 0);
        Check.due("status()", x.status(), BAD);
        Check.due("digest(0, -1)", x.digest(0, -1), 0);
        x.wave(0, 3, 47, 12000, 160);
        x.encode(0);
        x.lose(0, 0);
        x.decode(0);
        for (int side = 0; side < 2; side++) {
            d = 7;
            int[] sizes = {160, 8, 8, 1};
            for (int what = 0; what < 4; what++) {
                for (int k = 0; k < sizes[what]; k++) {
                    d = 31 * d + x.state(0, side, what, k);
                }
            }
            Check.due("digest(0, " + side + ")", x.digest(0, side), d);
            Check.due("status()", x.status(), 0);
        }
        Check.isTrue("two sides", x.digest(0, 0) != x.digest(0, 1));
    }

    private static void status() {
        Check.under(Document.promise(44));
        VoiceHouse x = house();
        Check.due("status()", x.status(), 0);
        x.told(9);
        Check.due("BAD", x.status(), BAD);
        Check.due("BAD still", x.status(), BAD);
        x.encode(0);
        Check.due("STATE", x.status(), STATE);
        x.stage(0, 0, 5);
        Check.due("WRONG", x.status(), WRONG);
        x.trace(0);
        Check.due("NONE of trace()", x.status(), NONE);
        x.repair(0);
        Check.due("NONE of repair()", x.status(), NONE);
        x.feed(0, 0);
        x.byteOf(0, 0, 0);
        Check.due("NONE of byteOf()", x.status(), NONE);
        x.damage(0, 0, 0, 1);
        Check.due("NONE of damage()", x.status(), NONE);
        x.lose(0, 0);
        Check.due("0", x.status(), 0);
        x.length(0, 0);
        Check.due("NONE of length()", x.status(), NONE);
        x.saturations();
        Check.due("0 behind saturations()", x.status(), 0);
        for (int c = 1; c <= 8; c++) {
            x.coder(0);
        }
        Check.due("FULL", x.status(), FULL);
        x.index(0, 1);
        Check.due("STATE of index()", x.status(), STATE);
        x.clear();
        Check.due("0 behind clear()", x.status(), 0);
        x.rate(0, 0);
        Check.due("BAD", x.status(), BAD);
        x.coder(0);
        Check.due("0 behind coder()", x.status(), 0);
    }

    /** Each refusal once, then everything that is told is as before. */
    private static void refusedCallsChangeNothing() {
        Check.under(Document.promise(44));
        VoiceHouse x = house();
        VoiceHouse y = house();
        for (VoiceHouse one : new VoiceHouse[] {x, y}) {
            one.wave(0, 4, 37, 9000, 320);
            one.encode(0);
            one.encode(0);
            one.decode(0);
            one.mix(0, 0, 16, 16);
            one.type(5, 1);
        }
        x.encode(0);
        x.start(0, 5);
        x.rate(0, 7);
        x.silence(0, -1);
        x.join(0, 0);
        x.drift(0, 5);
        x.sample(0, 99999);
        x.wave(0, 0, 5, 0, 999);
        x.cut(0, 0, 99);
        x.damage(0, 0, 99, 1);
        x.damage(0, 0, 0, 999);
        x.order(0, 0, 9);
        x.drop(0, 9);
        x.type(1, 9);
        x.feed(0, -1);
        x.stage(0, 0, 6);
        x.mix(0, 1, 1, 1);
        x.resample(0, 9, 1);
        x.cost(0, 9, 0, true);
        for (int what = 0; what <= 9; what++) {
            Check.due("count(0, " + what + ")", x.count(0, what), y.count(0, what));
        }
        for (int what = 0; what <= 3; what++) {
            Check.due("told(" + what + ")", x.told(what), y.told(what));
        }
        for (int side = 0; side < 2; side++) {
            Check.due("digest(0, " + side + ")", x.digest(0, side), y.digest(0, side));
        }
        for (int k = 0; k < 35; k++) {
            Check.due("byte " + k, x.byteOf(0, 0, k), y.byteOf(0, 0, k));
        }
        Check.due("trace(0)", x.trace(0), y.trace(0));
        Check.due("rate", x.rate(0, 0), 0);
        Check.due("level", x.silence(0, 0), 0);
        Check.due("bound", x.join(0, 1), 2000);
        Check.due("drift", x.drift(0, 0), 0);
        Check.due("filter", x.stage(0, 0, 0), 0);
        Check.due("saturations", x.saturations(), y.saturations());
    }

    private static void told() {
        Check.under(Document.promise(45));
        VoiceHouse x = house();
        x.coder(1);
        x.type(7, 5);
        x.feed(0, 3);
        x.type(7, 4);
        x.decode(0);
        x.resample(0, 1, 2);
        Check.due("coders", x.told(0), 2);
        Check.due("bytes on the tape", x.told(1), 4);
        Check.due("numbers of TRACE", x.told(2), 3);
        Check.due("samples on the bench", x.told(3), 80);
        Check.due("told(4)", x.told(4), BAD);
        Check.due("told(-1)", x.told(-1), BAD);
    }

    private static void clear() {
        Check.under(Document.promise(46));
        VoiceHouse x = house();
        Check.due("clear()", x.clear(), 1);
        Check.due("clear() of nothing", x.clear(), 0);
        x.coder(0);
        x.coder(0);
        x.emphasis(0, true);
        x.search(0, 0, 1);
        x.stage(0, 0, 4);
        x.start(0, 77);
        x.wave(0, 3, 30, 9000, 320);
        x.encode(0);
        x.decode(0);
        x.mix(0, 0, 32, 0);
        x.type(1, 1);
        Check.due("clear()", x.clear(), 2);
        for (int what = 0; what <= 3; what++) {
            Check.due("told(" + what + ")", x.told(what), 0);
        }
        Check.due("count(0, 0)", x.count(0, 0), BAD);
        Check.due("work(0)", x.work(0), NO);
        Check.due("trace(0)", x.trace(0), NONE);
        Check.due("coder(1)", x.coder(1), 0);
        for (int what = 0; what <= 9; what++) {
            Check.due("count(0, " + what + ") of a new coder", x.count(0, what), 0);
        }
        Check.due("emphasis", x.emphasis(0, false), 0);
        Check.due("search", x.search(0, 0, 0), 0);
        Check.due("filter", x.stage(0, 0, 0), 0);
        Check.due("repair", x.repair(0), NONE);
        Check.due("LAG", x.state(0, 0, 3, 0), 40);
        Check.due("an empty tape", x.feed(0, 0), 1);
        Check.due("length", x.length(0, 0), 0);
    }

    private static void clearKeepsCounts() {
        Check.under(Document.promise(46));
        VoiceHouse x = house();
        Frames.sealed(x, 0, 0, Frames.with(Frames.voice(4, 4), 18, 51));
        x.decode(0);
        x.feed(0, 1);
        x.decode(0);
        long saturated = x.saturations();
        Check.isTrue("some SATURATIONS", saturated > 0);
        x.clear();
        Check.due("FINDINGS stay", x.found(3), 1);
        Check.due("SATURATIONS stay", x.saturations(), saturated);
    }
}
