/** Promises 9 to 14: sample, wave, encode, pick, index, cost. */
public final class SamplesTest {
    private static final int BAD = -1, STATE = -2, FULL = -3, NO = -2147483648;

    public static void main(String[] args) {
        sample();
        waveIsRefused();
        waveAnswers();
        waveShapes();
        waveDraws();
        encodeIsRefused();
        encodeTakesTheFirst();
        loudRamp();
        tinySignals();
        predictionEndsEarly();
        impulse();
        zeroFrame();
        silentFrame();
        pick();
        index();
        costIsRefused();
        cost();
        costKeepsTheRateOfItsFrame();
        numbersAndSum();
        Check.end();
    }

    private static VoiceHouse withCoder(int rate) {
        VoiceHouse x = new VoiceHouse();
        x.coder(rate);
        return x;
    }

    private static void sample() {
        Check.under(Document.promise(9));
        VoiceHouse x = withCoder(0);
        Check.due("sample(0, 32768)", x.sample(0, 32768), BAD);
        Check.due("sample(0, -32769)", x.sample(0, -32769), BAD);
        Check.due("sample(1, 0)", x.sample(1, 0), BAD);
        Check.due("sample(-1, 0)", x.sample(-1, 0), BAD);
        Check.due("sample(0, 32767)", x.sample(0, 32767), 1);
        Check.due("sample(0, -32768)", x.sample(0, -32768), 2);
        x.wave(0, 0, 0, 0, 320);
        x.wave(0, 0, 0, 0, 317);
        Check.due("the last that waits", x.sample(0, 1), 640);
        Check.due("one too many", x.sample(0, 1), FULL);
        Check.due("status()", x.status(), FULL);
        Check.due("BAD is named first", x.sample(0, 40000), BAD);
        Check.due("count(0, 0)", x.count(0, 0), 640);
    }

    private static void waveIsRefused() {
        Check.under(Document.promise(10));
        VoiceHouse x = withCoder(0);
        int[][] bad = {{1, 0, 0, 0, 1}, {-1, 0, 0, 0, 1}, {0, -1, 5, 5, 1}, {0, 5, 5, 5, 1}, {0, 0, 5, 5, 0},
            {0, 0, 5, 5, 321}, {0, 0, 5, 5, -1}, {0, 0, 32768, 0, 1}, {0, 0, -32769, 0, 1}, {0, 1, 1, 5, 1},
            {0, 1, 641, 5, 1}, {0, 3, 1, 5, 1}, {0, 3, 641, 5, 1}, {0, 4, 1, 5, 1}, {0, 4, 641, 5, 1}, {0, 4, 0, 5, 1},
            {0, 2, -1, 5, 1}, {0, 1, 5, -1, 1}, {0, 1, 5, 32768, 1}, {0, 2, 5, -1, 1}, {0, 2, 5, 32768, 1},
            {0, 3, 5, 32768, 1}, {0, 4, 5, 32768, 1}};
        for (int[] b : bad) {
            Check.due("wave" + java.util.Arrays.toString(b), x.wave(b[0], b[1], b[2], b[3], b[4]), BAD);
            Check.due("status()", x.status(), BAD);
        }
        Check.due("nothing waits", x.count(0, 0), 0);
    }

    private static void waveAnswers() {
        Check.under(Document.promise(10));
        VoiceHouse x = withCoder(0);
        Check.due("of kind 0 any q", x.wave(0, 0, -32768, -9999999, 1), 1);
        Check.due("of kind 2 any p", x.wave(0, 2, 2147483647, 32767, 1), 2);
        Check.due("p of 2", x.wave(0, 1, 2, 0, 1), 3);
        Check.due("p of 640", x.wave(0, 3, 640, 32767, 1), 4);
        Check.due("320", x.wave(0, 4, 640, 32767, 320), 324);
        Check.due("316 more", x.wave(0, 0, 1, 0, 316), 640);
        Check.due("no more", x.wave(0, 0, 1, 0, 1), FULL);
        Check.due("BAD is named first", x.wave(0, 0, 1, 0, 321), BAD);
        VoiceHouse y = withCoder(0);
        y.wave(0, 0, 1, 0, 320);
        y.wave(0, 0, 1, 0, 319);
        Check.due("not for all", y.wave(0, 0, 1, 0, 2), FULL);
        Check.due("none of them waits", y.count(0, 0), 639);
        Check.due("for one", y.wave(0, 0, 1, 0, 1), 640);
    }

    /**
     * The size of HALF of sample number at of a wave: it is the last of the second frame, and a third one of zeros has,
     * with EMPHASIS, that as its PEAK.
     */
    private static int peakBehind(int kind, int p, int q, int at) {
        VoiceHouse x = withCoder(0);
        x.silence(0, 32769);
        x.wave(0, 0, 0, 0, 320 - at - 1);
        x.wave(0, kind, p, q, at + 1);
        x.wave(0, 0, 0, 0, 160);
        x.encode(0);
        x.encode(0);
        x.emphasis(0, true);
        x.encode(0);
        return x.byteOf(0, 2, 6) * 256 + x.byteOf(0, 2, 7);
    }

    private static int halved(int v) {
        return Math.abs(Math.floorDiv(v * 22282 + 16384, 32768));
    }

    private static void waveShapes() {
        Check.under(Document.promise(10));
        int[] saw = {-100, -80, -60, -40, -20, 0, 20, 40, 60, 80, -100};
        for (int i = 0; i < saw.length; i++) {
            Check.due("kind 1 at " + i, peakBehind(1, 10, 100, i), halved(saw[i]));
        }
        // h is 7, 5, 3, 1, 1, 3, 5; 2 * 100 * h / 7 - 100, cut toward 0 before 100 is taken off
        int[] triangle = {100, 42, -15, -72, -72, -15, 42, 100};
        for (int i = 0; i < triangle.length; i++) {
            Check.due("kind 3 at " + i, peakBehind(3, 7, 100, i), halved(triangle[i]));
        }
        int[] pulse = {500, 0, 0, 500, 0, 0, 500};
        for (int i = 0; i < pulse.length; i++) {
            Check.due("kind 4 at " + i, peakBehind(4, 3, 500, i), halved(pulse[i]));
        }
        Check.due("kind 0", peakBehind(0, -777, 0, 12), halved(-777));
    }

    /** From z = 0: 12345 (0 - 128), then 1406932606 (21468 modulo 256 is 220: 92), then 654583775 (9988: 4 - 128). */
    private static void waveDraws() {
        Check.under(Document.promise(10));
        Check.due("first draw", peakBehind(2, 0, 128, 0), halved(-128));
        Check.due("second draw", peakBehind(2, 0, 128, 1), halved(92));
        Check.due("third draw", peakBehind(2, 0, 128, 2), halved(-124));
        Check.due("rounded downwards: -128 * 1 >> 7", peakBehind(2, 0, 1, 0), halved(-1));
        Check.due("rounded downwards: -124 * 1 >> 7", peakBehind(2, 0, 1, 2), halved(-1));
    }

    private static void encodeIsRefused() {
        Check.under(Document.promise(11));
        VoiceHouse x = withCoder(0);
        Check.due("encode(1)", x.encode(1), BAD);
        Check.due("encode(-1)", x.encode(-1), BAD);
        Check.due("encode(0)", x.encode(0), STATE);
        x.wave(0, 0, 5, 0, 159);
        Check.due("159 samples", x.encode(0), STATE);
        Check.due("TRACE stays empty", x.told(2), 0);
        x.sample(0, 5);
        Check.due("160 samples", x.encode(0), 0);
        x.wave(0, 0, 5, 0, 160);
        for (int n = 2; n <= 250; n++) {
            x.again(0, 0);
        }
        Check.due("a full line", x.encode(0), FULL);
        Check.due("status()", x.status(), FULL);
        Check.due("the samples wait still", x.count(0, 0), 160);
        x.rate(0, 1);
        Check.due("STATE is named before FULL", x.encode(0), STATE);
        x.rate(0, 0);
        x.drop(0, 0);
        Check.due("room again", x.encode(0), 1);
        Check.due("frames encoded", x.count(0, 4), 2);
    }

    private static void encodeTakesTheFirst() {
        Check.under(Document.promise(11));
        VoiceHouse x = withCoder(0);
        x.silence(0, 32769);
        x.wave(0, 0, 7, 0, 160);
        x.wave(0, 0, 9, 0, 160);
        x.wave(0, 0, 11, 0, 3);
        x.encode(0);
        x.encode(0);
        Check.due("first PEAK", x.byteOf(0, 0, 7), 7);
        Check.due("second PEAK", x.byteOf(0, 1, 7), 9);
        Check.due("three wait", x.count(0, 0), 3);
    }

    /**
     * A constant of 1000, 160 samples: r(0) = 160000000, r(1) = 159000000, no shift; p(0) is 160156251 then, z =
     * -32768 * 159000000 / 160156251 = -32531 and INDEX 1 = (-32531 + 512) >> 10 = -32: -31, a SATURATION.
     */
    private static void loudRamp() {
        Check.under(Document.promise(11));
        VoiceHouse x = withCoder(0);
        x.wave(0, 0, 1000, 0, 160);
        x.encode(0);
        Check.due("INDEX 1", x.index(0, 1), -31);
        Check.due("its byte", x.byteOf(0, 0, 6), 1);
        Check.isTrue("a SATURATION", x.saturations() >= 1);
    }

    private static VoiceHouse encoded(int... first) {
        VoiceHouse x = withCoder(0);
        // INDEXES of a loud frame before it must not show through
        x.wave(0, 2, 3, 20000, 80);
        x.wave(0, 3, 9, 20000, 80);
        x.encode(0);
        for (int v : first) {
            x.sample(0, v);
        }
        x.wave(0, 0, 0, 0, 160 - first.length);
        x.encode(0);
        return x;
    }

    /** 1, 1: r(0) = 2, r(1) = 1, p(0) is 3 then: z = -10922, INDEX 1 = -10410 >> 10 = -11. */
    private static void tinySignals() {
        Check.under(Document.promise(11));
        Check.due("INDEX 1 of 1, 1", encoded(1, 1).index(0, 1), -11);
        Check.due("INDEX 1 of 1, -1", encoded(1, -1).index(0, 1), 11);
        VoiceHouse x = encoded();
        for (int m = 1; m <= 8; m++) {
            Check.due("INDEX " + m + " of zeros", x.index(0, m), 0);
        }
    }

    /** By rounding P(1) gets as great as P(0) here: the INDEXES from there on are 0. */
    private static void predictionEndsEarly() {
        Check.under(Document.promise(11));
        int[][] signals = {{1, -1, 1, -1, 1, -1, 1, -1, 1, -1}, {0, 1, 0, -1, -1, 0, 1}, {1, 1, 0, 0, 1, 1, -1, -1}};
        int[][] want = {{26, -8, -8, -8, -16, -21, 0, 0}, {-6, 13, 16, 11, 11, 21, 0, 0},
            {-9, 16, -19, 11, -11, 11, -11, 0}};
        for (int k = 0; k < signals.length; k++) {
            VoiceHouse x = encoded(signals[k]);
            for (int m = 1; m <= 8; m++) {
                Check.due("signal " + k + ", INDEX " + m, x.index(0, m), want[k][m - 1]);
            }
        }
    }

    /** One pulse of 8192 alone: all r(k) but r(0) are 0, so no prediction; the RESTS are the samples. */
    private static void impulse() {
        Check.under(Document.promise(11));
        VoiceHouse x = withCoder(0);
        x.sample(0, 0);
        x.sample(0, 0);
        x.sample(0, 8192);
        x.wave(0, 0, 0, 0, 157);
        x.encode(0);
        for (int m = 1; m <= 8; m++) {
            Check.due("INDEX " + m, x.index(0, m), 0);
        }
        Check.due("no past: lag", x.pick(0, 0, 0), 20);
        Check.due("no past: p", x.pick(0, 0, 1), 0);
        Check.due("PCOST", x.cost(0, 0, 0, false), 0);
        Check.due("the even pulse", x.pick(0, 0, 2), 2);
        Check.due("as it is", x.pick(0, 0, 3), 0);
        // beside the even pulse at 2 each odd one lowers e most at 1 or 3, turned: there u v is 32 u, or more
        long even = 32L * 8192;
        long e1 = 1344 + 1344 - 2 * 384;
        long d1 = even - 16L * 8192;
        long e3 = 1344 + 1344 - 2 * 384;
        Check.due("FCOST", x.cost(0, 0, 1, false), Math.min(leastCost(e1, d1), Math.min(leastCost(e3, even),
            leastCost(1344 + 1344 + 2 * 384, even + 16L * 8192))));
    }

    private static long leastCost(long e, long d) {
        long least = Long.MAX_VALUE;
        for (int j = 0; j < 52; j++) {
            long g = (4 + j % 4) * (1L << (j / 4));
            least = Math.min(least, g * g * e - 64 * g * d);
        }
        return least;
    }

    /** Of zeros: everything costs least where it costs nothing, but for the pulses, which can't be left out. */
    private static void zeroFrame() {
        Check.under(Document.promise(11));
        VoiceHouse x = withCoder(0);
        x.search(0, 1, 1);
        x.wave(0, 0, 0, 0, 160);
        x.encode(0);
        int[] want = {20, 0, 38, 0, 39, 1, 0};
        for (int what = 0; what <= 6; what++) {
            Check.due("pick(0, 0, " + what + ")", x.pick(0, 0, what), want[what]);
        }
        // 32 and 16 less 32: 1024 + 256, with G(0) = 4
        Check.due("FCOST", x.cost(0, 0, 1, false), 16 * 1280);
        x.search(0, 1, 0);
        x.wave(0, 0, 0, 0, 160);
        x.encode(0);
        Check.due("NESTED: the even pulse with the least energy of its own", x.pick(0, 0, 2), 38);
    }

    private static void silentFrame() {
        Check.under(Document.promise(11));
        VoiceHouse x = withCoder(1);
        x.silence(0, 32769);
        x.start(0, 258);
        x.wave(0, 0, 300, 0, 320);
        Check.due("encode()", x.encode(0), 258);
        int[] row = {2, 1, 2, 1, 2, 0, 1, 44, 2 ^ 1 ^ 2 ^ 1 ^ 2 ^ 0 ^ 1 ^ 44 ^ 165};
        Check.due("length", x.length(0, 0), row.length);
        for (int k = 0; k < row.length; k++) {
            Check.due("byte " + k, x.byteOf(0, 0, k), row[k]);
        }
        Check.due("LABEL", x.label(0, 0), 258);
        Check.due("pick() of SILENCE", x.pick(0, 0, 0), STATE);
        Check.due("the COPY's LAG stays", x.state(0, 0, 3, 0), 40);
        // HUSH with INDEXES 0: the synthesis passes it on, so V(0) is the last number of H
        Check.due("V(0)", x.state(0, 0, 1, 0), x.state(0, 0, 0, 159));
        Check.due("V(7)", x.state(0, 0, 1, 7), x.state(0, 0, 0, 152));
        long z = 258;
        for (int n = 0; n < 320; n++) {
            z = (z * 1103515245L + 12345L) % (1L << 31);
        }
        Check.due("H(159)", x.state(0, 0, 0, 159), Math.floorDiv(((int) (z / 65536 % 256) - 128) * 300, 256));
    }

    private static void pick() {
        Check.under(Document.promise(12));
        VoiceHouse x = withCoder(0);
        Check.due("pick() before a frame", x.pick(0, 0, 0), STATE);
        Check.due("BAD is named first", x.pick(0, 4, 0), BAD);
        x.wave(0, 4, 37, 9000, 160);
        x.encode(0);
        int[][] bad = {{1, 0, 0}, {-1, 0, 0}, {0, -1, 0}, {0, 4, 0}, {0, 0, -1}, {0, 0, 7}};
        for (int[] b : bad) {
            Check.due("a bad pick", x.pick(b[0], b[1], b[2]), BAD);
        }
        for (int part = 0; part < 4; part++) {
            int at = 14 + 5 * part;
            Check.due("lag", x.pick(0, part, 0), 20 + x.byteOf(0, 0, at));
            Check.due("p", x.pick(0, part, 1), x.byteOf(0, 0, at + 1));
            Check.due("even place and SIGN", x.pick(0, part, 2) + x.pick(0, part, 3), x.byteOf(0, 0, at + 2));
            Check.due("even", x.pick(0, part, 2) % 2, 0);
            Check.due("odd place less 1 and SIGN", x.pick(0, part, 4) - 1 + x.pick(0, part, 5), x.byteOf(0, 0, at + 3));
            Check.due("odd", x.pick(0, part, 4) % 2, 1);
            Check.due("j", x.pick(0, part, 6), x.byteOf(0, 0, at + 4));
        }
        x.silence(0, 32769);
        x.wave(0, 4, 37, 9000, 160);
        x.encode(0);
        Check.due("pick() of SILENCE", x.pick(0, 0, 0), STATE);
        Check.due("status()", x.status(), STATE);
    }

    private static void index() {
        Check.under(Document.promise(13));
        VoiceHouse x = withCoder(0);
        Check.due("index() before a frame", x.index(0, 1), NO);
        Check.due("status()", x.status(), STATE);
        Check.due("index(0, 0)", x.index(0, 0), NO);
        Check.due("BAD is named first", x.status(), BAD);
        x.wave(0, 3, 40, 9000, 160);
        x.encode(0);
        Check.due("index(1, 1)", x.index(1, 1), NO);
        Check.due("status()", x.status(), BAD);
        Check.due("index(0, 9)", x.index(0, 9), NO);
        for (int m = 1; m <= 8; m++) {
            Check.due("INDEX " + m, x.index(0, m), x.byteOf(0, 0, 5 + m) - 32);
            Check.due("the COPY's", x.state(0, 0, 2, m - 1), x.index(0, m));
        }
        x.silence(0, 32769);
        x.wave(0, 3, 40, 9000, 160);
        x.encode(0);
        Check.due("index() of SILENCE", x.index(0, 1), NO);
        Check.due("status()", x.status(), STATE);
    }

    private static void costIsRefused() {
        Check.under(Document.promise(14));
        VoiceHouse x = withCoder(0);
        Check.due("cost() before a frame", x.cost(0, 0, 0, true), Long.MIN_VALUE);
        Check.due("status()", x.status(), STATE);
        int[][] bad = {{1, 0, 0}, {-1, 0, 0}, {0, -1, 0}, {0, 4, 0}, {0, 0, -1}, {0, 0, 2}};
        for (int[] b : bad) {
            Check.due("a bad cost", x.cost(b[0], b[1], b[2], true), Long.MIN_VALUE);
            Check.due("status()", x.status(), BAD);
        }
    }

    private static void cost() {
        Check.under(Document.promise(14));
        VoiceHouse x = withCoder(0);
        boolean whereNestedMisses = false;
        for (int k = 0; k < 6; k++) {
            x.wave(0, 2, 5 + k, 20000, 160);
            x.encode(0);
            long saturated = x.saturations();
            int before = x.digest(0, 0);
            int traced = x.told(2);
            for (int part = 0; part < 4; part++) {
                for (int which = 0; which < 2; which++) {
                    long found = x.cost(0, part, which, false);
                    long least = x.cost(0, part, which, true);
                    Check.isTrue("not below the least", found >= least);
                    whereNestedMisses |= found > least;
                    Check.due("the same once more", x.cost(0, part, which, true), least);
                    Check.due("as it was found", x.cost(0, part, which, false), found);
                    Check.due("rows are 0", x.count(0, 9), 0);
                }
            }
            Check.due("the COPY stays", x.digest(0, 0), before);
            Check.due("SATURATIONS stay", x.saturations(), saturated);
            Check.due("TRACE stays", x.told(2), traced);
        }
        Check.isTrue("a NESTED search misses something", whereNestedMisses);
    }

    private static void costKeepsTheRateOfItsFrame() {
        Check.under(Document.promise(14));
        VoiceHouse x = withCoder(1);
        x.search(0, 0, 1);
        x.search(0, 1, 1);
        x.wave(0, 2, 9, 20000, 320);
        x.encode(0);
        x.rate(0, 0);
        for (int part = 0; part < 4; part++) {
            Check.due("PCOST", x.cost(0, part, 0, true), x.cost(0, part, 0, false));
            Check.due("FCOST", x.cost(0, part, 1, true), x.cost(0, part, 1, false));
        }
    }

    private static void numbersAndSum() {
        Check.under(Document.promise(11));
        VoiceHouse x = withCoder(1);
        x.start(0, 4660);
        x.wave(0, 3, 61, 9000, 320);
        x.encode(0);
        int[] head = {1, 1, 28, 0x12, 0x34, 0};
        int sum = 165;
        for (int k = 0; k < 34; k++) {
            if (k < 6) {
                Check.due("HEAD " + k, x.byteOf(0, 0, k), head[k]);
            }
            sum ^= x.byteOf(0, 0, k);
        }
        Check.due("SUM", x.byteOf(0, 0, 34), sum);
        Check.due("length", x.length(0, 0), 35);
    }
}
