import java.util.Arrays;

/** Boundary cases of "Terms", part 1 NUMBERS, and of the sentences on refusals behind part 4. */
public final class NumberEdges {
    private static final int MIN = Integer.MIN_VALUE, MAX = Integer.MAX_VALUE;

    public static void main(String[] args) {
        samples();
        saturationsOfS();
        saturationsOfW();
        half();
        shiftsAndQuotients();
        exactSums();
        draws();
        mostCoders();
        mostWaiting();
        mostFrames();
        framesAndParts();
        statesAtFirst();
        latestExcitation();
        firstRefusal();
        refusedChangesNothing();
        Edge.endTerms(Document.NUMBERS, Document.REFUSALS);
    }

    private static void samples() {
        Edge.of(Document.NUMBERS, "SAMPLES are -32768 .. 32767.");
        VoiceHouse x = Scene.coder(0);
        Edge.due(x, 1, "sample", 0, -32768);
        Edge.due(x, 2, "sample", 0, 32767);
        Edge.refusedOn(x, Edge.BAD, "sample", 0, -32769);
        Edge.refusedOn(x, Edge.BAD, "sample", 0, 32768);
        Edge.due(x, 3, "wave", 0, 0, -32768, 0, 1);
        Edge.due(x, 4, "wave", 0, 0, 32767, 0, 1);
        Edge.refusedOn(x, Edge.BAD, "wave", 0, 0, -32769, 0, 1);
        Edge.refusedOn(x, Edge.BAD, "wave", 0, 0, 32768, 0, 1);
    }

    /** PEAK and SATURATIONS of a SILENCE of two samples and zeros, with EMPHASIS. */
    private static void emphasized(int first, int second, int peak, int saturations) {
        VoiceHouse x = Scene.coder(0);
        x.emphasis(0, true);
        x.silence(0, 32769);
        x.sample(0, first);
        x.sample(0, second);
        x.wave(0, 0, 0, 0, 158);
        x.encode(0);
        Check.due("PEAK of " + first + ", " + second, 256 * x.byteOf(0, 0, 6) + x.byteOf(0, 0, 7), peak);
        Check.due("SATURATIONS of " + first + ", " + second, x.saturations(), saturations);
    }

    /** HALF(1, 22282) is 1, HALF(-1, 22282) is -1: so the second sample gets 1 less, or more. */
    private static void saturationsOfS() {
        Edge.of(Document.NUMBERS, "S(v) is v, or the nearest of these;");
        emphasized(-1, 32765, 32766, 0);
        emphasized(-1, 32766, 32767, 0);
        emphasized(-1, 32767, 32767, 1);
        emphasized(1, -32766, 32767, 0);
        emphasized(1, -32767, 32768, 0);
        emphasized(1, -32768, 32768, 1);
        Edge.of(Document.NUMBERS, "each S, each W that gives another number counts as a SATURATION.");
        VoiceHouse x = Scene.coder(0);
        // two pulses meet with one and a half of G(51) = 28672, in each of the four parts; the second time turned
        for (int turned = 0; turned < 2; turned++) {
            int[] row = Frames.voice(4 + turned, 4 + turned);
            for (int part = 0; part < 4; part++) {
                row = Frames.with(row, 18 + 5 * part, 51);
            }
            Frames.sealed(x, 0, turned, row);
            x.decode(0);
            Edge.due(x, turned == 0 ? 32767 : -32768, "out", 0, 5);
            Edge.due(x, 4 + 4 * turned, "saturations");
        }
    }

    /**
     * No signal leaves W's range: the p(k) are 2^30 in size at most, and the recursion of a true correlation lets no
     * P(i) grow above that. So all that can be held here is that the first r(0) that is shifted, 2^30, counts nothing.
     */
    private static void saturationsOfW() {
        Edge.of(Document.NUMBERS, "W(v) v, or the nearest of -2^31 .. 2^31 - 1");
        for (int rate = 0; rate < 2; rate++) {
            VoiceHouse x = Scene.coder(rate);
            // one sample of -32768 alone: r(0) is 2^30, the first that is shifted
            x.sample(0, -32768);
            x.wave(0, 0, 0, 0, 159 + 160 * rate);
            x.encode(0);
            for (int m = 1; m <= 8; m++) {
                Edge.due(x, 0, "index", 0, m);
            }
            Edge.due(x, 0, "saturations");
        }
    }

    /** TILT takes HALF(y, 8192), a quarter: of 2 it is 1, of -2 it is 0, of -3 it is -1. */
    private static void half() {
        Edge.of(Document.NUMBERS, "HALF(a, b) is (a * b + 16384) >> 15.");
        VoiceHouse x = Scene.coder(0);
        x.stage(0, 0, 2);
        // G(0) = 4, then G(5) = 10, then G(2) = 6: at 0, and turned at 21
        int[] row = Frames.with(Frames.voice(0, 21), 23, 5, 28, 2);
        Frames.sealed(x, 0, 0, row);
        x.decode(0);
        VoiceHouse plain = Scene.coder(0);
        Frames.sealed(plain, 0, 0, row);
        plain.decode(0);
        int last = 0;
        for (int n = 0; n < 120; n++) {
            int y = plain.out(0, n);
            Edge.due(x, y - Math.floorDiv(last * 8192 + 16384, 32768), "out", 0, n);
            last = y;
        }
        // 2, then -1: -1 - 1; turned -2, then 1: 1 - 0
        Edge.due(x, -2, "out", 0, 2);
        Edge.due(x, 1, "out", 0, 23);
    }

    private static void shiftsAndQuotients() {
        Edge.of(Document.NUMBERS, ">> is by 2^n, downwards; / cuts toward 0.");
        VoiceHouse x = Scene.coder(0);
        // G(1) is 5: 160, 80 and -40 by 32 are 5, 2 and -2; turned -5, -3 and 1
        Frames.sealed(x, 0, 0, Frames.with(Frames.voice(0, 21), 18, 1));
        x.decode(0);
        int[] want = {5, 2, -2, 0};
        int[] turned = {-5, -3, 1, 0};
        for (int k = 0; k < 4; k++) {
            Edge.due(x, want[k], "out", 0, k);
            Edge.due(x, turned[k], "out", 0, 21 + k);
        }
        // 2 and -2, -2 and 0, 0 and -5, -5 and -3, -3 and 1 by 2 and by 4
        x.resample(0, 2, 1);
        Edge.due(x, 0, "work", 3);
        Edge.due(x, -1, "work", 5);
        Edge.due(x, -2, "work", 41);
        Edge.due(x, -4, "work", 43);
        Edge.due(x, -1, "work", 45);
        Edge.due(x, 0, "work", 47);
        x.mix(0, 0, 16, 0);
        Edge.due(x, 2, "work", 0);
        Edge.due(x, -3, "work", 21);
        Edge.due(x, -2, "work", 22);
    }

    /** r(0) is 320 times 2^30, 0 in an int; p(0) and p(1) are 319 to 320 and a thousandth. FCOST is far below -2^31. */
    private static void exactSums() {
        Edge.of(Document.NUMBERS, "All sums are exact.");
        VoiceHouse x = Scene.coder(1);
        x.wave(0, 0, -32768, 0, 320);
        x.encode(0);
        Edge.due(x, -31, "index", 0, 1);
        VoiceHouse y = Scene.coder(0);
        y.wave(0, 4, 39, 32767, 160);
        y.encode(0);
        // pulses at 0 and at 39, where 16 and -8 are cut off
        Edge.due(y, 28672L * 28672 * (1344 + 1024) - 64L * 28672 * 2 * 32 * 32767, "cost", 0, 0, 1, false);
    }

    /** What HUSH draws: from 65535, the greatest z it can have, and from 0. */
    private static void draws() {
        Edge.of(Document.NUMBERS, "A DRAW from z: z becomes (z * 1103515245 + 12345) modulo 2^31; it tells (z >> 16) "
            + "modulo 256, less 128.");
        for (int label : new int[] {0, 1, 32768, 65535}) {
            VoiceHouse x = Scene.coder(0);
            x.start(0, label);
            Frames.sealed(x, 0, label, Frames.silence(0, 256));
            x.decode(0);
            int[] draws = Frames.draws(label, 160);
            for (int n = 0; n < 160; n++) {
                Edge.due(x, draws[n], "out", 0, n);
            }
        }
    }

    private static void mostCoders() {
        Edge.of(Document.NUMBERS, "CODERS 0 .. 7, as they are made, have a RATE");
        VoiceHouse x = Scene.FULL_HOUSE.get();
        Edge.refusedOn(x, Edge.FULL, "coder", 0);
        for (int c = 0; c < 8; c++) {
            Edge.due(x, c % 2, "rate", c, 0);
        }
        Edge.refusedOn(x, Edge.BAD, "rate", 8, 0);
        Edge.refusedOn(x, Edge.BAD, "rate", -1, 0);
        // each has its own samples, line and states
        for (int c = 0; c < 8; c++) {
            Edge.due(x, 160 + c, "wave", c, 3, 50 + c, 9000, 160 + c);
            Edge.due(x, 0, "encode", c);
            Edge.due(x, 160, "decode", c);
        }
        for (int c = 0; c < 8; c++) {
            Edge.due(x, c, "count", c, 0);
            Edge.due(x, x.digest(c, 0), "digest", c, 1);
            Check.isTrue("not as the one before", c == 0 || x.digest(c, 0) != x.digest(c - 1, 0));
        }
    }

    private static void mostWaiting() {
        Edge.of(Document.NUMBERS, "Each has samples that WAIT (640 at most)");
        VoiceHouse x = Scene.coder(1);
        for (int n = 0; n < 2; n++) {
            x.wave(0, 0, 1, 0, 320);
        }
        Edge.due(x, 640, "count", 0, 0);
        Edge.refusedOn(x, Edge.FULL, "sample", 0, 1);
        Edge.refusedOn(x, Edge.FULL, "wave", 0, 0, 1, 0, 1);
        x.encode(0);
        Edge.due(x, 640, "wave", 0, 0, 2, 0, 320);
        // the first ones go first: a frame of 1, then one of 2
        x.silence(0, 32769);
        x.encode(0);
        x.encode(0);
        Edge.due(x, 1, "byteOf", 0, 1, 7);
        Edge.due(x, 2, "byteOf", 0, 2, 7);
    }

    private static void mostFrames() {
        Edge.of(Document.NUMBERS, "a LINE of frames (250 at most)");
        VoiceHouse x = Scene.FULL_LINE.get();
        Edge.due(x, 250, "count", 0, 1);
        Edge.refusedOn(x, Edge.FULL, "encode", 0);
        Edge.refusedOn(x, Edge.FULL, "again", 0, 0);
        Edge.refusedOn(x, Edge.FULL, "feed", 0, 0);
        // NEXT is 0: one goes; the others are LATE then, all of them
        Edge.due(x, 160, "decode", 0);
        Edge.due(x, 249, "count", 0, 1);
        Edge.due(x, 250, "feed", 0, 0);
        Edge.due(x, 160, "decode", 0);
        Edge.due(x, 0, "count", 0, 1);
        Edge.due(x, 250, "count", 0, 6);
    }

    private static void framesAndParts() {
        Edge.of(Document.NUMBERS, "a FRAME has 160 samples (0), or 320 (1), and four PARTS 0 .. 3 of SUB samples (40, "
            + "80).");
        for (int rate = 0; rate < 2; rate++) {
            int sub = 40 + 40 * rate;
            VoiceHouse x = Scene.coder(rate);
            Frames.sealed(x, 0, 0, Frames.with(Frames.voice(sub - 2, 2 * 7), 1, rate));
            Edge.due(x, 4 * sub, "decode", 0);
            for (int part = 0; part < 4; part++) {
                Edge.due(x, 4, "out", 0, part * sub + 15);
                Edge.due(x, 4, "out", 0, part * sub + sub - 2);
                Edge.due(x, 2, "out", 0, part * sub + sub - 1);
                // the third number of that pulse is beyond the PART
                Edge.due(x, 0, "out", 0, part * sub);
            }
        }
    }

    private static void statesAtFirst() {
        Edge.of(Document.NUMBERS, "V(0) .. V(7); INDEXES 1 .. 8, LAG: all 0 at first, LAG 40.");
        for (int side = 0; side < 2; side++) {
            VoiceHouse x = Scene.FULL_HOUSE.get();
            int[] sizes = {160, 8, 8};
            for (int what = 0; what < 3; what++) {
                for (int k = 0; k < sizes[what]; k++) {
                    Edge.due(x, 0, "state", 7, side, what, k);
                }
            }
            Edge.due(x, 40, "state", 7, side, 3, 0);
        }
    }

    private static void latestExcitation() {
        Edge.of(Document.NUMBERS, "H, the latest 160 numbers of EXCITATION (H(159) the latest one);");
        VoiceHouse x = Scene.coder(1);
        // SUB is 80: of a frame of 320 the last two PARTS are left; the second one's last number is the one before them
        Frames.sealed(x, 0, 0, Frames.with(Frames.voice(0, 78), 1, 1, 18, 20, 23, 24, 28, 28, 33, 32));
        x.decode(0);
        int[] gains = {512, 1024};
        for (int part = 0; part < 2; part++) {
            Edge.due(x, gains[part], "state", 0, 1, 0, 80 * part);
            Edge.due(x, gains[part] / 2, "state", 0, 1, 0, 80 * part + 1);
            Edge.due(x, gains[part], "state", 0, 1, 0, 80 * part + 79);
            Edge.due(x, 0, "state", 0, 1, 0, 80 * part + 78);
        }
    }

    /** Of each call that can be refused for two reasons at once, in the order in which it names them. */
    private static void firstRefusal() {
        Edge.of(Document.REFUSALS, "Of several refusals the first that a call names counts;");
        Edge.refused(Scene.FULL_HOUSE, Edge.BAD, "coder", 2);
        Edge.bad("start", 0, -1);
        Edge.refused(Scene.FULL_WAIT, Edge.BAD, "sample", 0, 32768);
        Edge.refused(Scene.FULL_WAIT, Edge.BAD, "sample", 1, 5);
        Edge.refused(Scene.FULL_WAIT, Edge.BAD, "wave", 0, 5, 5, 5, 1);
        Edge.bad("pick", 2, 4, 0);
        Edge.bad("pick", 1, 0, 7);
        Edge.bad("index", 2, 9);
        Edge.bad("cost", 2, 0, 2, true);
        Edge.refused(Scene.BUSY, Edge.STATE, "cut", 0, 2, -1);
        Edge.bad("damage", 0, 2, 0, 256);
        Edge.bad("damage", 0, 0, 99, 0);
        Edge.refused(Scene.BUSY, Edge.STATE, "damage", 0, 2, 99, 1);
        Edge.refused(Scene.FULL_LINE, Edge.BAD, "again", 0, 250);
        Edge.refused(Scene.FULL_TAPE, Edge.BAD, "type", 5, 9);
        Edge.refused(Scene.FULL_LINE, Edge.BAD, "feed", 0, -1);
        Edge.bad("stage", 0, 4, 6);
        Edge.bad("mix", 1, 2, 33, 0);
        Edge.bad("mix", 1, 3, 1, 1);
        Edge.bad("resample", 2, 1, 9);
        // the LINE is full, and fewer samples than a FRAME wait: encode() names STATE before FULL
        VoiceHouse x = Scene.FULL_LINE.get();
        x.rate(0, 1);
        Edge.refusedOn(x, Edge.STATE, "encode", 0);
        x.rate(0, 0);
        Edge.refusedOn(x, Edge.FULL, "encode", 0);
    }

    /** All calls that a busy coder can refuse, one behind the other: the house is as one that had none of them. */
    private static void refusedChangesNothing() {
        Edge.of(Document.REFUSALS, "what is refused changes nothing but status().");
        VoiceHouse x = Scene.BUSY.get();
        Object[][] calls = {{"coder", 2}, {"rate", 0, 2}, {"search", 0, 2, 0}, {"silence", 0, -1}, {"start", 0, 5},
            {"sample", 0, MAX}, {"wave", 0, 0, MIN, 0, 320}, {"encode", 0}, {"pick", 0, 4, 0}, {"index", 0, 9},
            {"cost", 0, 4, 0, true}, {"length", 0, 2}, {"byteOf", 0, 0, 37}, {"label", 0, 4}, {"lose", 0, 4},
            {"cut", 0, 0, 38}, {"cut", 0, 2, 0}, {"damage", 0, 0, 0, 256}, {"damage", 0, 0, 37, 1}, {"resum", 0, 1},
            {"resum", 0, 3}, {"shorts", 0, 1}, {"order", 0, 0, 4}, {"drop", 0, 4}, {"again", 0, 4}, {"type", 5, 9},
            {"feed", 0, 65536}, {"decode", 2}, {"out", 0, 160}, {"state", 0, 0, 4, 0}, {"repair", 2},
            {"stage", 0, 0, 5}, {"stage", 0, 4, 1}, {"join", 0, 0}, {"drift", 0, 2}, {"mix", 0, 1, 1, 1},
            {"resample", 1, 1, 1}, {"work", 160}, {"trace", 99}, {"count", 0, 10}, {"found", 8}, {"digest", 0, 2},
            {"told", 4}};
        for (Object[] one : calls) {
            Edge.call(x, (String) one[0], Arrays.copyOfRange(one, 1, one.length));
            Check.isTrue(one[0] + " is refused", x.status() < 0);
        }
        Check.isTrue("as a house without them", Whole.of(x).equals(Whole.of(Scene.BUSY.get())));
        Edge.of(Document.REFUSALS, "BAD: no such coder, or a number is not as told.");
        for (int c : new int[] {-1, 3, 7, 8, MIN, MAX}) {
            Edge.bad("encode", c);
            Edge.bad("decode", c);
        }
        Edge.bad("rate", 0, 2);
    }
}
