/** Boundary cases of promises 9 to 14: sample, wave, encode, pick, index, cost. */
public final class SampleEdges {
    private static final int MIN = Integer.MIN_VALUE, MAX = Integer.MAX_VALUE;

    public static void main(String[] args) {
        sample();
        sampleIsFull();
        waveOfNoSuch();
        waveOfP();
        waveOfQ();
        waveIsFull();
        waveSamples();
        waveDraws();
        encode();
        encodeIsFull();
        encodeNumbers();
        pick();
        pickIsOfTheLatest();
        pickOfLongParts();
        index();
        cost();
        costOfPulses();
        costOfWholeSearches();
        costOfPulsesBehindThePitch();
        Edge.endPromises(9, 14);
    }

    private static void sample() {
        Edge.of(9, "A sample WAITS: how many do. BAD; FULL.");
        Edge.noSuchCoder("sample", 5);
        for (int v : new int[] {-32769, 32768, MIN, MAX}) {
            Edge.bad("sample", 0, v);
        }
        VoiceHouse x = Scene.FULL_HOUSE.get();
        Edge.due(x, 1, "sample", 7, -32768);
        Edge.due(x, 2, "sample", 7, 32767);
        Edge.due(x, 3, "sample", 7, 0);
        Edge.due(x, 0, "count", 6, 0);
    }

    private static void sampleIsFull() {
        Edge.of(9, "A sample WAITS: how many do. BAD; FULL.");
        Edge.refused(Scene.FULL_WAIT, Edge.FULL, "sample", 0, 5);
        Edge.refused(Scene.FULL_WAIT, Edge.BAD, "sample", 0, 32768);
        VoiceHouse x = Scene.coder(0);
        x.wave(0, 0, 1, 0, 320);
        x.wave(0, 0, 1, 0, 319);
        Edge.due(x, 640, "sample", 0, 5);
        Edge.refusedOn(x, Edge.FULL, "sample", 0, 5);
        x.encode(0);
        Edge.due(x, 481, "sample", 0, 5);
    }

    private static void waveOfNoSuch() {
        Edge.of(10, "BAD: c, kind, n;");
        Edge.noSuchCoder("wave", 0, 5, 5, 1);
        for (int kind : new int[] {-1, 5, MIN, MAX}) {
            Edge.bad("wave", 0, kind, 5, 5, 1);
        }
        for (int n : new int[] {0, 321, -1, MIN, MAX}) {
            Edge.bad("wave", 0, 0, 5, 5, n);
            Edge.bad("wave", 2, 4, 5, 5, n);
        }
        VoiceHouse x = Scene.FULL_HOUSE.get();
        Edge.due(x, 1, "wave", 7, 4, 5, 5, 1);
        Edge.due(x, 321, "wave", 7, 4, 5, 5, 320);
    }

    private static void waveOfP() {
        Edge.of(10, "p of 0 no sample, of 1, 3, 4 not 2 .. 640, of 2 below 0;");
        for (int p : new int[] {-32769, 32768, MIN, MAX}) {
            Edge.bad("wave", 0, 0, p, 5, 1);
        }
        for (int kind : new int[] {1, 3, 4}) {
            for (int p : new int[] {1, 641, 0, -2, MIN, MAX}) {
                Edge.bad("wave", 0, kind, p, 5, 1);
            }
        }
        Edge.bad("wave", 0, 2, -1, 5, 1);
        Edge.bad("wave", 0, 2, MIN, 5, 1);
        VoiceHouse x = Scene.coder(0);
        Edge.due(x, 1, "wave", 0, 0, -32768, 5, 1);
        Edge.due(x, 2, "wave", 0, 0, 32767, 5, 1);
        int waits = 2;
        for (int kind : new int[] {1, 3, 4}) {
            Edge.due(x, waits + 1, "wave", 0, kind, 2, 5, 1);
            Edge.due(x, waits + 2, "wave", 0, kind, 640, 5, 1);
            waits += 2;
        }
        Edge.due(x, 9, "wave", 0, 2, 0, 5, 1);
        Edge.due(x, 10, "wave", 0, 2, MAX, 5, 1);
    }

    private static void waveOfQ() {
        Edge.of(10, "q (but of 0) not 0 .. 32767.");
        for (int kind = 1; kind <= 4; kind++) {
            for (int q : new int[] {-1, 32768, MIN, MAX}) {
                Edge.bad("wave", 0, kind, 5, q, 1);
            }
        }
        VoiceHouse x = Scene.coder(0);
        int waits = 0;
        for (int q : new int[] {-1, 32768, MIN, MAX}) {
            waits++;
            Edge.due(x, waits, "wave", 0, 0, 5, q, 1);
        }
        for (int kind = 1; kind <= 4; kind++) {
            Edge.due(x, waits + 1, "wave", 0, kind, 5, 0, 1);
            Edge.due(x, waits + 2, "wave", 0, kind, 5, 32767, 1);
            waits += 2;
        }
    }

    private static void waveIsFull() {
        Edge.of(10, "FULL: not for all.");
        Edge.refused(Scene.FULL_WAIT, Edge.FULL, "wave", 0, 0, 5, 5, 1);
        Edge.refused(Scene.FULL_WAIT, Edge.FULL, "wave", 0, 4, 5, 5, 320);
        Edge.refused(Scene.FULL_WAIT, Edge.BAD, "wave", 0, 4, 5, 5, 321);
        Edge.refused(Scene.FULL_WAIT, Edge.BAD, "wave", 0, 4, 5, -1, 1);
        VoiceHouse x = Scene.coder(0);
        x.wave(0, 0, 1, 0, 320);
        Edge.due(x, 321, "wave", 0, 0, 1, 0, 1);
        Edge.refusedOn(x, Edge.FULL, "wave", 0, 0, 1, 0, 320);
        Edge.due(x, 321, "count", 0, 0);
        Edge.due(x, 640, "wave", 0, 0, 1, 0, 319);
        Edge.refusedOn(x, Edge.FULL, "wave", 0, 0, 1, 0, 1);
    }

    /** PEAK of frame i in the line, which is SILENCE. */
    private static int peak(VoiceHouse x, int i) {
        return 256 * x.byteOf(0, i, 6) + x.byteOf(0, i, 7);
    }

    /** A frame begins with sample number i of a wave, zeros are behind it: the sample's size is its PEAK. */
    private static int sizeOf(int kind, int p, int q, int i) {
        VoiceHouse x = Scene.coder(0);
        x.silence(0, 32769);
        x.wave(0, 0, 0, 0, 320 - i);
        x.wave(0, kind, p, q, i + 1);
        x.wave(0, 0, 0, 0, 159);
        for (int frame = 0; frame < 3; frame++) {
            x.encode(0);
        }
        return peak(x, 2);
    }

    /** A frame ends with it; the next one, 16384 and zeros, begins with EMPHASIS with 16384 less two thirds of it. */
    private static boolean isNegative(int kind, int p, int q, int i) {
        VoiceHouse x = Scene.coder(0);
        x.silence(0, 32769);
        x.wave(0, 0, 0, 0, 319 - i % 160);
        x.wave(0, kind, p, q, i + 1);
        for (int frame = 0; frame < 3 && x.count(0, 0) > 0; frame++) {
            x.encode(0);
        }
        x.emphasis(0, true);
        x.sample(0, 16384);
        x.wave(0, 0, 0, 0, 159);
        x.encode(0);
        return peak(x, x.count(0, 1) - 1) > 16384;
    }

    private static void sampleDue(int kind, int p, int q, int i, int want) {
        int size = sizeOf(kind, p, q, i);
        Check.due("sample " + i + " of kind " + kind + ", p " + p + ", q " + q,
            isNegative(kind, p, q, i) ? -size : size, want);
    }

    private static void waveSamples() {
        Edge.of(10, "n samples (1 .. 320) WAIT, i from 0 on: kind 0: p. 1: 2 q (i modulo p) / p - q.");
        sampleDue(0, -32768, 5, 319, -32768);
        sampleDue(0, 32767, 5, 0, 32767);
        sampleDue(1, 2, 32767, 0, -32767);
        sampleDue(1, 2, 32767, 1, 0);
        sampleDue(1, 2, 32767, 318, -32767);
        sampleDue(1, 2, 32767, 319, 0);
        // 2 * 32767 * 319 / 640 is 32664, cut, less 32767
        sampleDue(1, 640, 32767, 319, -103);
        // 2 * 5 * 1 / 3 is 3, 2 * 5 * 2 / 3 is 6
        sampleDue(1, 3, 5, 1, -2);
        sampleDue(1, 3, 5, 2, 1);
        sampleDue(1, 3, 5, 3, -5);
        sampleDue(1, 640, 0, 5, 0);
        Edge.of(10, "3: 2 q h / p - q, h the size of 2 (i modulo p) - p. 4: q, where p divides i, else 0.");
        sampleDue(3, 2, 32767, 0, 32767);
        sampleDue(3, 2, 32767, 1, -32767);
        sampleDue(3, 2, 32767, 2, 32767);
        sampleDue(3, 640, 32767, 0, 32767);
        // h is 2: 2 * 32767 * 2 / 640 is 204
        sampleDue(3, 640, 32767, 319, -32563);
        sampleDue(3, 3, 5, 1, -2);
        sampleDue(3, 3, 5, 2, -2);
        sampleDue(4, 2, 32767, 0, 32767);
        sampleDue(4, 2, 32767, 1, 0);
        sampleDue(4, 2, 32767, 318, 32767);
        sampleDue(4, 640, 32767, 0, 32767);
        sampleDue(4, 640, 32767, 319, 0);
    }

    /** From 2^31 - 1: z is 1043980748, z >> 16 is 15929, modulo 256 57, less 128 -71; from 0: -128, then 92. */
    private static void waveDraws() {
        Edge.of(10, "2: z is p at first, (DRAW * q) >> 7.");
        sampleDue(2, MAX, 128, 0, -71);
        sampleDue(2, MAX, 32767, 0, Math.floorDiv(-71 * 32767, 128));
        sampleDue(2, 0, 32767, 0, -32767);
        sampleDue(2, 0, 128, 1, 92);
        sampleDue(2, 0, 1, 0, -1);
        sampleDue(2, 0, 1, 1, 0);
        sampleDue(2, 0, 0, 0, 0);
        sampleDue(2, MAX, 1, 0, -1);
        sampleDue(2, 7, 256, 319, 2 * Frames.draws(7, 320)[319]);
    }

    private static void encode() {
        Edge.of(11, "A frame is ENCODED: its NUMBER. BAD; STATE: fewer samples than a FRAME WAIT;");
        Edge.noSuchCoder("encode");
        Edge.refused(Scene.BUSY, Edge.STATE, "encode", 0);
        Edge.refused(Scene.BUSY, Edge.STATE, "encode", 2);
        for (int rate = 0; rate < 2; rate++) {
            int size = 160 + 160 * rate;
            VoiceHouse x = Scene.coder(rate);
            Edge.refusedOn(x, Edge.STATE, "encode", 0);
            x.wave(0, 0, 5, 0, size - 1);
            Edge.refusedOn(x, Edge.STATE, "encode", 0);
            Edge.due(x, size - 1, "count", 0, 0);
            x.sample(0, 5);
            Edge.due(x, 0, "encode", 0);
            Edge.due(x, 0, "count", 0, 0);
            Edge.refusedOn(x, Edge.STATE, "encode", 0);
            x.wave(0, 0, 5, 0, size - 1);
            x.sample(0, 5);
            x.sample(0, 5);
            Edge.due(x, 1, "encode", 0);
            Edge.due(x, 1, "count", 0, 0);
        }
    }

    private static void encodeIsFull() {
        Edge.of(11, "FULL: the LINE.");
        Edge.refused(Scene.FULL_LINE, Edge.FULL, "encode", 0);
        VoiceHouse x = Scene.FULL_LINE.get();
        x.drop(0, 249);
        Edge.due(x, 1, "encode", 0);
        Edge.due(x, 250, "count", 0, 1);
        Edge.due(x, 1, "label", 0, 249);
        Edge.refusedOn(x, Edge.STATE, "encode", 0);
    }

    private static void encodeNumbers() {
        Edge.of(11, "A frame is ENCODED: its NUMBER.");
        VoiceHouse x = Scene.coder(0);
        x.start(0, 65534);
        x.wave(0, 0, 5, 0, 320);
        x.wave(0, 0, 5, 0, 320);
        int[] numbers = {65534, 65535, 0, 1};
        for (int i = 0; i < 4; i++) {
            Edge.due(x, numbers[i], "encode", 0);
            Edge.due(x, numbers[i], "label", 0, i);
            Edge.due(x, numbers[i] / 256, "byteOf", 0, i, 3);
            Edge.due(x, numbers[i] % 256, "byteOf", 0, i, 4);
            Edge.due(x, (numbers[i] + 1) % 65536, "count", 0, 3);
            Edge.due(x, i + 1, "count", 0, 4);
            Edge.due(x, i + 1, "count", 0, 1);
        }
    }

    private static void pick() {
        Edge.of(12, "BAD; STATE: none was, or it was SILENCE.");
        Edge.noSuchCoder("pick", 0, 0);
        for (int v : new int[] {-1, MIN, MAX}) {
            Edge.bad("pick", 0, v, 0);
            Edge.bad("pick", 0, 0, v);
        }
        Edge.bad("pick", 0, 4, 0);
        Edge.bad("pick", 0, 0, 7);
        Edge.bad("pick", 0, 3, 7);
        for (int c = 1; c <= 2; c++) {
            Edge.refused(Scene.BUSY, Edge.STATE, "pick", c, 0, 0);
            Edge.refused(Scene.BUSY, Edge.STATE, "pick", c, 3, 6);
            Edge.bad("pick", c, 4, 0);
            Edge.bad("pick", c, 0, 7);
        }
    }

    private static void pickIsOfTheLatest() {
        Edge.of(12, "Of a PART of the latest frame encoded: 0 lag, 1 p, 2 the even place, 3 its SIGN, 4 the odd place, "
            + "5 its SIGN, 6 j.");
        VoiceHouse x = Scene.coder(0);
        x.silence(0, 10);
        for (int v : new int[] {9, 2000, 9, 3000}) {
            x.wave(0, 4, 37, v, 160);
            x.encode(0);
            int last = x.count(0, 1) - 1;
            if (v < 10) {
                Edge.refusedOn(x, Edge.STATE, "pick", 0, 0, 0);
                continue;
            }
            for (int part = 0; part < 4; part++) {
                int at = 14 + 5 * part;
                Edge.due(x, x.byteOf(0, last, at) + 20, "pick", 0, part, 0);
                Edge.due(x, x.byteOf(0, last, at + 1), "pick", 0, part, 1);
                Edge.due(x, x.byteOf(0, last, at + 2) & 254, "pick", 0, part, 2);
                Edge.due(x, x.byteOf(0, last, at + 2) & 1, "pick", 0, part, 3);
                Edge.due(x, (x.byteOf(0, last, at + 3) & 254) + 1, "pick", 0, part, 4);
                Edge.due(x, x.byteOf(0, last, at + 3) & 1, "pick", 0, part, 5);
                Edge.due(x, x.byteOf(0, last, at + 4), "pick", 0, part, 6);
            }
        }
        int lag = x.pick(0, 3, 0);
        x.encode(0);
        Edge.due(x, lag, "pick", 0, 3, 0);
    }

    /** Zeros cost least where the part's end cuts the pulses off: at 78 and 79 of 80. */
    private static void pickOfLongParts() {
        Edge.of(12, "2 the even place, 3 its SIGN, 4 the odd place, 5 its SIGN, 6 j.");
        VoiceHouse x = Scene.coder(1);
        x.wave(0, 0, 0, 0, 320);
        x.encode(0);
        int[] want = {20, 0, 78, 0, 79, 1, 0};
        for (int what = 0; what <= 6; what++) {
            Edge.due(x, want[what], "pick", 0, 0, what);
        }
    }

    private static void index() {
        Edge.of(13, "INDEX m (1 .. 8) of the latest frame encoded. NO: as pick(); status() tells BAD, STATE.");
        Edge.noSuchCoder("index", 1);
        for (int m : new int[] {0, 9, -1, MIN, MAX}) {
            Edge.bad("index", 0, m);
            Edge.bad("index", 1, m);
            Edge.bad("index", 2, m);
        }
        for (int c = 1; c <= 2; c++) {
            Edge.refused(Scene.BUSY, Edge.STATE, "index", c, 1);
            Edge.refused(Scene.BUSY, Edge.STATE, "index", c, 8);
        }
        VoiceHouse x = Scene.coder(0);
        x.wave(0, 3, 40, 9000, 160);
        x.encode(0);
        for (int m = 1; m <= 8; m++) {
            Edge.due(x, x.byteOf(0, 0, 5 + m) - 32, "index", 0, m);
        }
        Check.isTrue("INDEX 1 and INDEX 8 are not the same", x.index(0, 1) != x.index(0, 8));
    }

    private static void cost() {
        Edge.of(14, "The least long, when it is refused: as pick().");
        Edge.noSuchCoder("cost", 0, 0, false);
        for (int v : new int[] {-1, MIN, MAX}) {
            Edge.bad("cost", 0, v, 0, true);
            Edge.bad("cost", 0, 0, v, false);
        }
        for (int c = 0; c <= 2; c++) {
            Edge.bad("cost", c, 4, 0, true);
            Edge.bad("cost", c, 0, 2, true);
            Edge.bad("cost", c, 3, 2, false);
        }
        for (int c = 1; c <= 2; c++) {
            Edge.refused(Scene.BUSY, Edge.STATE, "cost", c, 0, 0, true);
            Edge.refused(Scene.BUSY, Edge.STATE, "cost", c, 3, 1, false);
        }
        VoiceHouse x = Scene.BUSY.get();
        for (int part = 0; part < 4; part++) {
            for (int which = 0; which < 2; which++) {
                Check.isTrue("not above what was found",
                    x.cost(0, part, which, true) <= x.cost(0, part, which, false));
                Edge.due(x, x.cost(0, part, which, false), "cost", 0, part, which, false);
            }
        }
    }

    /** No past: PCOST 0. One 1000 at place 0: the least of all pairs of pulses and gains, summed up here. */
    private static void costOfPulses() {
        Edge.of(14, "PCOST (which = 0), FCOST (1) of a PART of the latest frame encoded, as it was found; or (whole) "
            + "the least that the WHOLE search would have found there");
        VoiceHouse x = Scene.coder(0);
        x.wave(0, 4, 640, 1000, 160);
        x.encode(0);
        Edge.due(x, 0, "cost", 0, 0, 0, false);
        Edge.due(x, 0, "cost", 0, 0, 0, true);
        long least = Long.MAX_VALUE;
        int[] shape = {32, 16, -8};
        for (int pair = 0; pair < 20 * 2 * 20 * 2; pair++) {
            int[] v = new int[43];
            for (int k = 0; k < 3; k++) {
                v[pair / 80 * 2 + k] += pair / 40 % 2 == 0 ? shape[k] : -shape[k];
                v[pair / 2 % 20 * 2 + 1 + k] += pair % 2 == 0 ? shape[k] : -shape[k];
            }
            long e = 0;
            for (int n = 0; n < 40; n++) {
                e += v[n] * v[n];
            }
            for (int j = 0; j <= 51; j++) {
                long g = (4 + j % 4) * (1L << j / 4);
                least = Math.min(least, g * g * e - 64 * g * 1000 * v[0]);
            }
        }
        Edge.due(x, least, "cost", 0, 0, 1, true);
        Check.isTrue("the NESTED one is not below it", x.cost(0, 0, 1, false) >= least);
    }

    /** What a WHOLE search has found is the least; it stays so, whatever is asked before, and at another RATE. */
    private static void costOfWholeSearches() {
        Edge.of(14, "or (whole) the least that the WHOLE search would have found there");
        for (int rate = 0; rate < 2; rate++) {
            VoiceHouse x = Scene.coder(rate);
            x.search(0, 0, 1);
            x.search(0, 1, 1);
            x.wave(0, 2, 9, 20000, 320);
            x.encode(0);
            x.rate(0, 1 - rate);
            for (int n = 0; n < 16; n++) {
                int part = n % 4, which = n / 4 % 2;
                Edge.due(x, x.cost(0, part, which, false), "cost", 0, part, which, true);
            }
        }
        // a NESTED search misses something here, and says so
        boolean[] missed = new boolean[2];
        VoiceHouse x = Scene.coder(0);
        for (int frame = 0; frame < 6; frame++) {
            x.wave(0, 2, 5 + frame, 20000, 160);
            x.encode(0);
            for (int n = 0; n < 8; n++) {
                missed[n % 2] |= x.cost(0, n / 2, n % 2, false) > x.cost(0, n / 2, n % 2, true);
            }
        }
        Check.isTrue("PITCH", missed[0]);
        Check.isTrue("PULSES", missed[1]);
    }

    /** PITCH NESTED, PULSES WHOLE: their FCOST is the least behind that PITCH, not behind the one of least PCOST. */
    private static void costOfPulsesBehindThePitch() {
        Edge.of(14, "(of PULSES: behind the PITCH that was found).");
        VoiceHouse x = Scene.coder(0);
        x.search(0, 1, 1);
        boolean other = false;
        for (int frame = 0; frame < 4; frame++) {
            x.wave(0, 2, 9 + frame, 20000, 160);
            x.encode(0);
            for (int part = 0; part < 4; part++) {
                other |= x.pick(0, part, 1) > 0 && x.cost(0, part, 0, true) < x.cost(0, part, 0, false);
                Edge.due(x, x.cost(0, part, 1, false), "cost", 0, part, 1, true);
                Edge.due(x, x.cost(0, part, 1, false), "cost", 0, part, 1, true);
            }
        }
        Check.isTrue("another PITCH would have cost less", other);
    }
}
