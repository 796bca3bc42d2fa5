/** Boundary cases of "Terms", part 2 ENCODING. */
public final class EncodingEdges {
    public static void main(String[] args) {
        emphasis();
        emphasisAcrossFrames();
        level();
        shift();
        nothingToPredict();
        tinyPrediction();
        greatestIndexes();
        predictionEnds();
        quotientsOfPrediction();
        lattice();
        latticeBehindSilence();
        lags();
        lagsWithoutPast();
        lagTies();
        pulseShapes();
        pulsePlaces();
        pulseTies();
        gains();
        excited();
        synthesis();
        history();
        copyOfVoice();
        copyOfSilence();
        head();
        body();
        redundancy();
        numbers();
        Edge.endTerms(Document.ENCODING);
    }

    private static int peak(VoiceHouse x, int i) {
        return 256 * x.byteOf(0, i, 6) + x.byteOf(0, i, 7);
    }

    private static void picks(VoiceHouse x, int part, int... want) {
        for (int what = 0; what <= 6; what++) {
            Edge.due(x, want[what], "pick", 0, part, what);
        }
    }

    /** HALF(10000, 22282) is 6800, HALF(-10000, 22282) is -6800. */
    private static void emphasis() {
        Edge.of(Document.ENCODING, "with EMPHASIS x(n) becomes S(x(n) - HALF(x(n - 1) as it came, 22282)), x(-1) being "
            + "the last sample of the FRAME before, as it came (0).");
        VoiceHouse x = Scene.coder(0);
        x.emphasis(0, true);
        x.silence(0, 32769);
        // the very first has 0 before it
        x.wave(0, 0, 10000, 0, 1);
        x.wave(0, 0, 0, 0, 159);
        x.encode(0);
        Check.due("PEAK of the first sample", peak(x, 0), 10000);
        // as it came: 10000 less 6800, not less two thirds of 3200
        x.wave(0, 0, 10000, 0, 320);
        x.encode(0);
        x.encode(0);
        Check.due("PEAK, 0 before it", peak(x, 1), 10000);
        Check.due("PEAK, 10000 before it", peak(x, 2), 3200);
        x.wave(0, 0, -10000, 0, 160);
        x.encode(0);
        Check.due("PEAK, the sign turns", peak(x, 3), 16800);
    }

    private static void emphasisAcrossFrames() {
        Edge.of(Document.ENCODING, "x(-1) being the last sample of the FRAME before, as it came (0).");
        for (int rate = 0; rate < 2; rate++) {
            int size = 160 + 160 * rate;
            VoiceHouse x = Scene.coder(rate);
            x.silence(0, 32769);
            // a FRAME without EMPHASIS is one before, too; of it the last sample counts, not the first that waits
            x.wave(0, 0, 0, 0, size - 1);
            x.sample(0, -32768);
            x.encode(0);
            x.emphasis(0, true);
            x.wave(0, 0, 0, 0, size);
            x.encode(0);
            Check.due("PEAK is HALF(-32768, 22282)", peak(x, 1), 22282);
            x.wave(0, 0, 0, 0, size);
            x.encode(0);
            Check.due("PEAK of zeros behind zeros", peak(x, 2), 0);
        }
        new Beside(0).emphasis(true).wave(3, 9, 32767, 160).encode().wave(3, 2, 32767, 160).encode();
    }

    private static void level() {
        Edge.of(Document.ENCODING, "PEAK is the greatest size of these x(n). If it is below LEVEL (0 at first), the "
            + "frame is SILENCE, else VOICE.");
        int[][] cases = {{0, 0, 1}, {0, 1, 2}, {1, 1, 1}, {-1, 1, 1}, {-1, 2, 2}, {99, 100, 2}, {100, 100, 1},
            {-99, 100, 2}, {-100, 100, 1}, {32767, 32767, 1}, {32767, 32768, 2}, {-32768, 32768, 1},
            {-32768, 32769, 2}};
        for (int[] one : cases) {
            for (int at : new int[] {0, 77, 159}) {
                VoiceHouse x = Scene.coder(0);
                x.silence(0, one[1]);
                if (at > 0) {
                    x.wave(0, 0, 0, 0, at);
                }
                x.sample(0, one[0]);
                if (at < 159) {
                    x.wave(0, 0, 0, 0, 159 - at);
                }
                x.encode(0);
                Check.due("SORT of " + one[0] + " at LEVEL " + one[1], x.byteOf(0, 0, 0), one[2]);
                if (one[2] == 2) {
                    Check.due("PEAK", peak(x, 0), Math.abs(one[0]));
                }
            }
        }
        // PEAK is that of what EMPHASIS leaves: 1000, 320, .. behind 1000
        VoiceHouse x = Scene.coder(0);
        x.emphasis(0, true);
        x.silence(0, 321);
        x.wave(0, 0, 1000, 0, 320);
        x.encode(0);
        x.encode(0);
        Edge.due(x, 1, "byteOf", 0, 0, 0);
        Edge.due(x, 2, "byteOf", 0, 1, 0);
    }

    private static void indexes(String what, VoiceHouse x, int... want) {
        for (int m = 1; m <= 8; m++) {
            Check.due(what + ": INDEX " + m, x.index(0, m), want[m - 1]);
        }
    }

    /**
     * Two signals whose r(0) is 2^30 - 1 and 2^33 - 1, to be shifted by 0 and by 3; one 1 more and it is by 1 and by 4.
     * A shift by one more, or less, gives another INDEX in each of them.
     */
    private static void shift() {
        Edge.of(Document.ENCODING, "with the least s, 0 or above, for which r(0) >> s is below 2^30: p(k) = r(k) >> "
            + "s.");
        for (int more = 0; more < 2; more++) {
            Beside a = new Beside(0).wave(1, 208, 3280, 79).samples(26471, 152, 6, 1, 1, more);
            a.wave(0, 0, 0, 75).encode();
            indexes("2^30 - 1 and " + more, a.x, -10, -7, -6, -5, -4, -3, -3, -2);
            Beside b = new Beside(0).wave(3, 64, 12214, 114).samples(32767, 32767, 28053, 178, 7, 2, 1, 1, more);
            b.wave(0, 0, 0, 37).encode();
            indexes("2^33 - 1 and " + more, b.x, -28, 5, 1, -11, 5, 1, -4, 4 + more);
        }
        // the greatest r(0) there is: 320 times 2^30
        new Beside(1).wave(0, -32768, 0, 320).encode();
        new Beside(1).wave(3, 2, 32767, 320).encode();
    }

    private static void nothingToPredict() {
        Edge.of(Document.ENCODING, "If p(0) is 0, all INDEXES are 0.");
        Beside b = new Beside(0).wave(3, 9, 20000, 160).encode();
        Check.isTrue("INDEX 1 is another before", b.x.index(0, 1) != 0);
        b.wave(0, 0, 0, 160).encode();
        indexes("zeros", b.x, 0, 0, 0, 0, 0, 0, 0, 0);
        for (int k = 0; k < 8; k++) {
            Edge.due(b.x, 0, "state", 0, 0, 2, k);
        }
        // EMPHASIS can leave zeros, too: 1 less HALF(1, 22282)
        Beside c = new Beside(0).emphasis(true).wave(0, 1, 0, 320).encode().encode();
        indexes("zeros behind EMPHASIS", c.x, 0, 0, 0, 0, 0, 0, 0, 0);
    }

    /** 1, 1: r(0) = 2, r(1) = 1, p(0) gets 0 and 1 more: z = -32768 / 3 = -10922, (-10922 + 512) >> 10 = -11. */
    private static void tinyPrediction() {
        Edge.of(Document.ENCODING, "Else p(0) gets (p(0) >> 10) + 1 more;");
        Edge.due(new Beside(0).frame(160, 0, 1, 1).x, -11, "index", 0, 1);
        Edge.due(new Beside(0).frame(160, 0, 1, -1).x, 11, "index", 0, 1);
        // 32, 32: 2048, 1024; p(0) gets 2 and 1 more: z = -32768 * 1024 / 2051 = -16360: (-16360 + 512) >> 10 = -16
        Edge.due(new Beside(0).frame(160, 0, 32, 32).x, -16, "index", 0, 1);
        // HALF of these comes to an end in a half, or beside it: one more or less in it gives another INDEX
        indexes("halves", new Beside(0).frame(160, 0, 2, 1, 0, 0, 2, 0, 2, -2).x, 4, -7, 4, -6, -4, 0, 8, 2);
        indexes("halves", new Beside(0).frame(160, 0, -2, -3, -2).x, -21, 13, -4, -4, 4, -4, 0, 0);
        indexes("below a half", new Beside(0).frame(160, 0, 5, 5, -1, -4).x, -11, 18, -5, 5, 3, -2, 5, -2);
        indexes("below a half", new Beside(0).frame(160, 0, 0, 2, 1, 1, 1, 1).x, -18, -5, -5, 0, 5, 0, 0, 0);
        // a single 1: r(0) is 1, all else 0
        indexes("a single 1", new Beside(0).frame(160, 159, 1).x, 0, 0, 0, 0, 0, 0, 0, 0);
    }

    /** n times 100, or 100 and -100 in turn: z is 32768 (n - 1) / n less a thousandth; 32254 of 68, 32261 of 69. */
    private static void greatestIndexes() {
        Edge.of(Document.ENCODING, "INDEX m is (z + 512) >> 10, but -31 .. 31, the nearest (another number is a "
            + "SATURATION);");
        for (int n = 67; n <= 70; n++) {
            VoiceHouse x = new Beside(0).wave(0, 100, 0, n).wave(0, 0, 0, 160 - n).encode().x;
            Edge.due(x, -31, "index", 0, 1);
            Edge.due(x, n <= 68 ? 0 : 1, "saturations");
            VoiceHouse y = new Beside(0).wave(3, 2, 100, n).wave(0, 0, 0, 160 - n).encode().x;
            Edge.due(y, 31, "index", 0, 1);
            Edge.due(y, n <= 68 ? 0 : 1, "saturations");
        }
    }

    private static void predictionEnds() {
        Edge.of(Document.ENCODING, "if P(0) is not above 0, or the size of P(1) not below P(0): INDEXES m to 8 are 0, "
            + "that is all.");
        Beside b = new Beside(0).wave(2, 3, 20000, 160).encode();
        b.frame(160, 0, 1, -1, 1, -1, 1, -1, 1, -1, 1, -1);
        indexes("P(1) as great as P(0) at 7", b.x, 26, -8, -8, -8, -16, -21, 0, 0);
        b.frame(160, 0, 0, 1, 0, -1, -1, 0, 1);
        indexes("at 7 once more", b.x, -6, 13, 16, 11, 11, 21, 0, 0);
        b.frame(160, 0, 1, 1, 0, 0, 1, 1, -1, -1);
        indexes("at 8", b.x, -9, 16, -19, 11, -11, 11, -11, 0);
    }

    /** A and B: z = -32768 A B / (A A + B B, and a thousandth); cut toward 0 it is -512, one further would be -513. */
    private static void quotientsOfPrediction() {
        Edge.of(Document.ENCODING, "Else z = -32768 P(1) / P(0);");
        int found = 0;
        for (int a = 2000; a < 2400 && found < 3; a++) {
            for (int b = 25; b < 45; b++) {
                long p0 = (long) a * a + (long) b * b;
                p0 += p0 / 1024 + 1;
                long exact = 32768L * a * b;
                if (exact / p0 == 512 && exact % p0 != 0) {
                    Edge.due(new Beside(0).frame(160, 0, a, b).x, 0, "index", 0, 1);
                    // with the other sign z is 512: (512 + 512) >> 10
                    Edge.due(new Beside(0).frame(160, 0, a, -b).x, 1, "index", 0, 1);
                    found++;
                    break;
                }
            }
        }
        Check.due("signals with z between 512 and 513", found, 3);
    }

    /** An impulse at the end leaves D(0), and by INDEXES 0 nothing more; at the begin of the next frame it counts. */
    private static void lattice() {
        Edge.of(Document.ENCODING, "LATTICE, D(0) .. D(7) being the ENCODER's (0 at first; a SILENCE leaves them)");
        for (int at = 151; at <= 159; at++) {
            Beside b = new Beside(0).frame(160, at, 8192).frame(160, 0, 1000, 1000, 900);
            Check.isTrue("the second frame predicts", b.x.index(0, 1) != 0);
        }
        // the loudest, so that S is met in it
        new Beside(0).wave(3, 2, 32767, 160).encode().wave(0, 32767, 0, 160).encode().wave(1, 2, 32767, 160).encode();
        new Beside(1).wave(3, 9, 32767, 320).encode().wave(3, 2, 32767, 320).encode();
        // here the b of m = 8, which nothing takes up, meets S, and counts
        new Beside(0).wave(3, 19, 32767, 92).wave(2, 676, 32767, 228).encode().encode();
        new Beside(0).wave(4, 10, 32767, 123).wave(3, 6, 32767, 197).encode().encode();
        new Beside(0).wave(2, 377, 31219, 105).wave(2, 569, 31219, 215).encode().encode();
    }

    /** X, a SILENCE of zeros, Y: H is 0 behind the SILENCE, so D alone tells of X in the RESTS of Y. */
    private static void latticeBehindSilence() {
        Edge.of(Document.ENCODING, "(0 at first; a SILENCE leaves them)");
        long[] costs = new long[2];
        for (int kept = 0; kept < 2; kept++) {
            Beside b = new Beside(0).silence(1).search(1, 1);
            if (kept == 1) {
                b.frame(160, 159, 8192);
            }
            b.wave(0, 0, 0, 160).encode();
            Edge.due(b.x, 2, "byteOf", 0, kept, 0);
            for (int k = 0; k < 160; k += 3) {
                Edge.due(b.x, 0, "state", 0, 0, 0, k);
            }
            b.frame(160, 0, 1000, 1000, 900);
            costs[kept] = b.x.cost(0, 0, 1, false);
        }
        Check.isTrue("what was before the SILENCE counts", costs[0] != costs[1]);
    }

    /** Impulses p apart: what is p before tells them; 147 and a few below it are in reach in the last PART alone. */
    private static void lags() {
        Edge.of(Document.ENCODING, "BEHIND a lag L (20 .. 147) is a(n) = H(160 - L + n modulo L), H being the COPY's.");
        for (int p = 141; p <= 150; p++) {
            VoiceHouse x = new Beside(0).search(1, 0).wave(4, p, 9000, 160).encode().x;
            if (p <= 147) {
                Edge.due(x, p, "pick", 0, 3, 0);
                Edge.due(x, p - 20, "byteOf", 0, 0, 29);
            } else {
                Check.isTrue("no lag of " + p, x.pick(0, 3, 0) != p);
            }
            new Beside(1).search(1, 1).wave(4, p, 9000, 320).encode();
        }
        for (int p = 18; p <= 24; p++) {
            VoiceHouse x = new Beside(0).search(1, 0).wave(4, p, 9000, 160).encode().wave(4, p, 9000, 160).encode().x;
            for (int part = 0; part < 4; part++) {
                Check.isTrue("no lag below 20", x.pick(0, part, 0) >= 20);
            }
        }
        Edge.due(new Beside(0).search(1, 0).wave(4, 20, 9000, 160).encode().x, 20, "pick", 0, 1, 0);
        Edge.of(Document.ENCODING, "NESTED (search 0): of the lags 20, 24, .. 144; then, L being that lag, of L - 3 to "
            + "L + 3 (20 .. 147).");
        int[][] nested = {{4, 20, 9000, 0, 1, 20}, {4, 21, 9000, 0, 1, 21}, {4, 143, 9000, 0, 3, 143},
            {4, 144, 9000, 0, 3, 144}, {4, 147, 9000, 0, 3, 147}, {4, 138, 9000, 1, 0, 22}, {4, 45, 32767, 1, 3, 23},
            {3, 29, 200, 0, 3, 145}, {3, 98, 200, 1, 1, 146}};
        for (int[] one : nested) {
            Beside b = new Beside(0);
            for (int frame = 0; frame <= one[3]; frame++) {
                b.wave(one[0], one[1], one[2], 160).encode();
            }
            Edge.due(b.x, one[5], "pick", 0, one[4], 0);
        }
        Edge.of(Document.ENCODING, "PITCH: a lag and p (0 .. 7) of the least PCOST");
        Edge.due(new Beside(0).wave(4, 20, 9000, 160).encode().x, 7, "pick", 0, 1, 1);
        Edge.due(new Beside(0).wave(4, 21, 9000, 160).encode().x, 6, "pick", 0, 1, 1);
    }

    private static void lagsWithoutPast() {
        Edge.of(Document.ENCODING, "If the least is 0: lag 20, p 0.");
        for (int kind = 0; kind < 2; kind++) {
            Beside b = new Beside(0).search(kind, 0).wave(4, 37, 9000, 160).encode();
            Edge.due(b.x, 20, "pick", 0, 0, 0);
            Edge.due(b.x, 0, "pick", 0, 0, 1);
            Edge.due(b.x, 0, "cost", 0, 0, 0, false);
            Edge.due(b.x, 0, "cost", 0, 0, 0, true);
            // zeros behind it: every p above 0 costs something
            b.wave(0, 0, 0, 160).encode();
            for (int part = 0; part < 4; part++) {
                Edge.due(b.x, 20, "pick", 0, part, 0);
                Edge.due(b.x, 0, "pick", 0, part, 1);
                Edge.due(b.x, 0, "cost", 0, part, 0, false);
                Edge.due(b.x, 0, "cost", 0, part, 0, true);
            }
            Edge.due(b.x, 20, "state", 0, 0, 3, 0);
        }
    }

    private static void lagTies() {
        Edge.of(Document.ENCODING, "of several the least lag, then the least p.");
        // frames of the same wave; in the last one, in that PART, another p costs the same, or another lag
        int[][] ties = {{4, 36, 5, 2, 3, 36, 3}, {4, 12, 5, 2, 3, 96, 6}, {4, 100, 10, 2, 0, 60, 5},
            {4, 104, 10, 2, 0, 56, 5}, {4, 2, 100, 0, 3, 24, 5}, {4, 2, 128, 1, 0, 22, 6}, {4, 2, 256, 0, 3, 40, 7},
            {3, 60, 5, 1, 3, 26, 2}, {3, 54, 3, 1, 3, 60, 6}, {3, 67, 20, 0, 2, 53, 3}};
        for (int[] one : ties) {
            Beside b = new Beside(0).search(1, 0);
            for (int frame = 0; frame <= one[3]; frame++) {
                b.wave(one[0], one[1], one[2], 160).encode();
            }
            Edge.due(b.x, one[5], "pick", 0, one[4], 0);
            Edge.due(b.x, one[6], "pick", 0, one[4], 1);
        }
    }

    /** One impulse and zeros: INDEXES 0, no past, so the pulses are all there is. */
    private static void pulseShapes() {
        Edge.of(Document.ENCODING, "A pulse at a place q has 32 at q, 16 at q + 1, -8 at q + 2, as far as the PART "
            + "goes;");
        for (int rate = 0; rate < 2; rate++) {
            int size = 160 + 160 * rate, sub = size / 4;
            for (int kind = 0; kind < 2; kind++) {
                for (int at : new int[] {0, 1, 2, 3, sub - 4, sub - 3, sub - 2, sub - 1}) {
                    for (int sign = 1; sign >= -1; sign -= 2) {
                        Beside b = new Beside(rate).search(0, kind).frame(size, at, sign * 2000);
                        Edge.due(b.x, at % 2 == 0 ? at : at - 1, "pick", 0, 0, 2);
                        Edge.due(b.x, sign == 1 ? 0 : 1, "pick", 0, 0, 3);
                    }
                }
            }
        }
    }

    /** Zeros: without anything to tell, the cheapest pulses are those that the PART's end cuts off. */
    private static void pulsePlaces() {
        Edge.of(Document.ENCODING, "v(n) is the sum of two, that at an even place and that at an odd one, each with "
            + "its SIGN (0 as it is, 1 turned).");
        for (int kind = 0; kind < 2; kind++) {
            Beside b = new Beside(0).search(0, kind).wave(0, 0, 0, 160).encode();
            picks(b.x, 0, 20, 0, 38, 0, 39, 1, 0);
            Edge.due(b.x, 16 * (32 * 32 + 16 * 16), "cost", 0, 0, 1, false);
            Beside c = new Beside(1).search(0, kind).wave(0, 0, 0, 320).encode();
            picks(c.x, 0, 20, 0, 78, 0, 79, 1, 0);
        }
    }

    private static void pulseTies() {
        Edge.of(Document.ENCODING, "of several the least place, SIGN, j;");
        // 162 at 27: 48 of it in pulses at 26 and 27, e = 3456; G = 64 and G = 80 cost the same: j 16
        picks(new Beside(0).frame(160, 27, 162).x, 0, 20, 0, 26, 0, 27, 0, 16);
        picks(new Beside(0).frame(160, 33, -162).x, 0, 20, 0, 32, 1, 33, 1, 16);
        picks(new Beside(0).frame(160, 26, 396).x, 0, 20, 0, 26, 0, 25, 0, 21);
        Edge.due(new Beside(0).frame(160, 27, 162).x, -17694720, "cost", 0, 0, 1, false);
        int[] far = new int[17];
        far[0] = 2000;
        far[16] = 2000;
        for (int kind = 0; kind < 2; kind++) {
            // the same impulse at 4 and at 20: the even pulse takes the first, the odd one the other
            Beside b = new Beside(0).search(0, kind).frame(160, 4, far);
            Edge.due(b.x, 4, "pick", 0, 0, 2);
            Edge.due(b.x, 19, "pick", 0, 0, 4);
            // at 5 and at 31 beside a greater one at 18
            int[] three = new int[27];
            three[0] = -900;
            three[13] = 4000;
            three[26] = -900;
            Beside c = new Beside(0).search(0, kind).frame(160, 5, three);
            Edge.due(c.x, 18, "pick", 0, 0, 2);
            new Beside(1).search(0, kind).frame(320, 5, three);
        }
        Edge.of(Document.ENCODING, "WHOLE: of all even places, SIGNS, odd places, SIGNS, j the least, of several the "
            + "first by these in this order.");
        // 1983 at 3, 641 at 14: alone the even pulse is best at 2, before the greater one; beside an odd one at 14
        int[] two = new int[12];
        two[0] = 1983;
        two[11] = 641;
        picks(new Beside(0).search(0, 1).frame(160, 3, two).x, 0, 20, 0, 14, 0, 3, 0, 32);
        Edge.due(new Beside(0).search(0, 0).frame(160, 3, two).x, 2, "pick", 0, 0, 2);
        // a later pair costs less by a hair
        two = new int[11];
        two[0] = 1126;
        two[10] = 1744;
        picks(new Beside(0).search(0, 1).frame(160, 3, two).x, 0, 20, 0, 12, 0, 13, 0, 30);
        picks(new Beside(0).search(0, 1).frame(160, 27, 162).x, 0, 20, 0, 26, 0, 27, 0, 16);
        picks(new Beside(0).search(0, 1).frame(160, 33, -162).x, 0, 20, 0, 32, 1, 33, 1, 16);
    }

    private static void gains() {
        Edge.of(Document.ENCODING, "GAIN j (0 .. 51) is G(j) = (4 + j modulo 4) 2^(j / 4).");
        for (int frame = 0; frame < 13; frame++) {
            VoiceHouse all = Scene.coder(0);
            int[] row = Frames.voice(0, 20);
            for (int part = 0; part < 4; part++) {
                row = Frames.with(row, 18 + 5 * part, 4 * frame + part);
            }
            Frames.sealed(all, 0, 0, row);
            all.decode(0);
            for (int part = 0; part < 4; part++) {
                Edge.due(all, (4 + part) << frame, "out", 0, 40 * part);
            }
        }
        // the loudest at the begin and at the end of a PART; the quietest
        VoiceHouse x = new Beside(0).wave(4, 39, 32767, 160).encode().x;
        picks(x, 0, 20, 0, 0, 0, 39, 0, 51);
        Edge.due(x, 51, "byteOf", 0, 0, 18);
        // e is 1344 and, at the end of the PART, 1024; d is 32 times 32767, twice
        Edge.due(x, 28672L * 28672 * 2368 - 64L * 28672 * 2 * 32 * 32767, "cost", 0, 0, 1, false);
        Edge.due(new Beside(0).wave(0, 0, 0, 160).encode().x, 0, "pick", 0, 0, 6);
    }

    private static void excited() {
        Edge.of(Document.ENCODING, "EXCITED: e(n) = S(((5 p a(n)) >> 5) + ((G(j) v(n)) >> 5)), a(n) as before;");
        Beside b = new Beside(0).wave(4, 20, 32767, 160).encode().wave(4, 20, 32767, 160).encode();
        Check.isTrue("S is met", b.x.saturations() > 0);
    }

    /**
     * Behind a frame of INDEXES 0 the V are its last samples, V(6) a 43008 that S cut. The next one has INDEX 8 of 31:
     * there the second sample, again a cut 43008, meets it as V(7): f is 32767 - 31743, b is 32767 + 992, and cut,
     * though no V takes it up.
     */
    private static void synthesis() {
        Edge.of(Document.ENCODING, "b = S(V(m - 1) + HALF(f, k(m))); if m is below 8, V(m) becomes b.");
        VoiceHouse x = Scene.coder(0);
        Frames.sealed(x, 0, 0, Frames.with(Frames.voice(0, 20), 31, 32, 32, 32, 33, 51));
        x.decode(0);
        Edge.due(x, 32767, "state", 0, 1, 1, 6);
        Edge.due(x, 28672, "state", 0, 1, 1, 7);
        Edge.due(x, 1, "saturations");
        Frames.sealed(x, 0, 1, Frames.with(Frames.voice(0, 0), 13, 63, 18, 51));
        x.decode(0);
        Edge.due(x, 28672 - 27776, "out", 0, 0);
        Edge.due(x, 32767 - 31743, "out", 0, 1);
        Edge.due(x, 3, "saturations");
    }

    private static void history() {
        Edge.of(Document.ENCODING, "H loses its oldest SUB numbers and gets these.");
        Beside b = new Beside(1).wave(4, 37, 9000, 320).encode().rate(0).wave(4, 37, 9000, 160).encode();
        b.rate(1).wave(4, 37, 9000, 320).encode();
    }

    private static void copyOfVoice() {
        Edge.of(Document.ENCODING, "Of VOICE the COPY's INDEXES are these, its LAG the last PART's.");
        VoiceHouse x = new Beside(0).search(1, 0).wave(4, 147, 9000, 160).encode().x;
        Edge.due(x, 147, "state", 0, 0, 3, 0);
        x = new Beside(0).wave(3, 9, 9000, 160).encode().x;
        for (int m = 1; m <= 8; m++) {
            Edge.due(x, x.index(0, m), "state", 0, 0, 2, m - 1);
        }
    }

    private static void copyOfSilence() {
        Edge.of(Document.ENCODING, "Of SILENCE: HUSH: z is the frame's NUMBER;");
        for (int number : new int[] {0, 65535}) {
            VoiceHouse x = Scene.coder(0);
            x.start(0, number);
            x.silence(0, 32769);
            x.wave(0, 0, -32768, 0, 160);
            x.encode(0);
            int[] draws = Frames.draws(number, 160);
            for (int n = 0; n < 160; n++) {
                Edge.due(x, draws[n] * 128, "state", 0, 0, 0, n);
            }
            Edge.due(x, 0, "saturations");
        }
        Edge.of(Document.ENCODING, "with INDEXES 0, which the COPY has then (its LAG stays).");
        Beside b = new Beside(0).search(1, 0).wave(4, 147, 9000, 160).encode();
        b.silence(32769).wave(3, 9, 1000, 160).encode();
        Edge.due(b.x, 147, "state", 0, 0, 3, 0);
        for (int k = 0; k < 8; k++) {
            Edge.due(b.x, 0, "state", 0, 0, 2, k);
        }
        // PART by PART of 80 the draws go on: of 320 the latest 160 are in H
        VoiceHouse x = Scene.coder(1);
        x.silence(0, 32769);
        x.wave(0, 0, 256, 0, 320);
        x.encode(0);
        int[] draws = Frames.draws(0, 320);
        for (int n = 160; n < 320; n++) {
            Edge.due(x, draws[n], "state", 0, 0, 0, n - 160);
        }
    }

    private static void head() {
        Edge.of(Document.ENCODING, "THE FRAME are bytes: SORT (1 VOICE, 2 SILENCE), RATE, how many bytes the BODY has, "
            + "NUMBER (two, the high one first), how many REDUNDANCY has (these six are its HEAD);");
        for (int rate = 0; rate < 2; rate++) {
            for (int sort = 1; sort <= 2; sort++) {
                VoiceHouse x = Scene.coder(rate);
                x.start(0, 0xfe01);
                x.silence(0, sort == 1 ? 0 : 32769);
                x.wave(0, 0, 1, 0, 320);
                x.encode(0);
                int[] want = {sort, rate, sort == 1 ? 28 : 2, 0xfe, 0x01, 0};
                int sum = 165;
                for (int k = 0; k < 6; k++) {
                    Edge.due(x, want[k], "byteOf", 0, 0, k);
                }
                int length = sort == 1 ? 35 : 9;
                Edge.due(x, length, "length", 0, 0);
                for (int k = 0; k < length - 1; k++) {
                    sum ^= x.byteOf(0, 0, k);
                }
                Edge.due(x, sum, "byteOf", 0, 0, length - 1);
            }
        }
    }

    private static void body() {
        Edge.of(Document.ENCODING, "BODY: of VOICE each INDEX and 32, then of each PART lag - 20, p, the even place "
            + "and its SIGN, the odd place less 1 and its SIGN, j; of SILENCE PEAK (two, the high one first);");
        VoiceHouse x = new Beside(0).wave(0, 100, 0, 68).wave(3, 2, 2000, 92).encode().x;
        for (int m = 1; m <= 8; m++) {
            Edge.due(x, x.index(0, m) + 32, "byteOf", 0, 0, 5 + m);
        }
        Edge.due(new Beside(0).wave(0, 100, 0, 160).encode().x, 1, "byteOf", 0, 0, 6);
        Edge.due(new Beside(0).wave(3, 2, 100, 160).encode().x, 63, "byteOf", 0, 0, 6);
        // an even pulse at 38 as it is, an odd one at 39, turned: 38, 39
        VoiceHouse y = new Beside(0).wave(0, 0, 0, 160).encode().x;
        int[] want = {0, 0, 38, 39, 0};
        for (int k = 0; k < 20; k++) {
            Edge.due(y, want[k % 5], "byteOf", 0, 0, 14 + k);
        }
        for (int peak : new int[] {0, 255, 256, 32767, 32768}) {
            VoiceHouse z = Scene.coder(0);
            z.silence(0, 32769);
            z.wave(0, 0, -peak, 0, 160);
            z.encode(0);
            Edge.due(z, peak / 256, "byteOf", 0, 0, 6);
            Edge.due(z, peak % 256, "byteOf", 0, 0, 7);
        }
    }

    private static void redundancy() {
        Edge.of(Document.ENCODING, "REDUNDANCY, if that is on and the frame encoded before was VOICE: lag - 20 and p "
            + "of that one's last PART;");
        VoiceHouse x = Scene.coder(0);
        x.search(0, 0, 1);
        x.redundancy(0, true);
        x.wave(0, 4, 147, 9000, 160);
        x.encode(0);
        Edge.due(x, 35, "length", 0, 0);
        // turned off for one frame: that one is the frame before, all the same
        x.redundancy(0, false);
        x.wave(0, 0, 0, 0, 160);
        x.encode(0);
        Edge.due(x, 35, "length", 0, 1);
        x.redundancy(0, true);
        x.wave(0, 4, 147, 9000, 160);
        x.encode(0);
        Edge.due(x, 2, "byteOf", 0, 2, 5);
        Edge.due(x, 0, "byteOf", 0, 2, 34);
        Edge.due(x, 0, "byteOf", 0, 2, 35);
        int lag = x.pick(0, 3, 0);
        int p = x.pick(0, 3, 1);
        x.silence(0, 32769);
        x.wave(0, 0, 5, 0, 320);
        x.encode(0);
        int[] want = {2, 0, 2, 0, 3, 2, 0, 5, lag - 20, p};
        for (int k = 0; k < want.length; k++) {
            Edge.due(x, want[k], "byteOf", 0, 3, k);
        }
        // SILENCE behind SILENCE, VOICE behind SILENCE: none
        x.encode(0);
        Edge.due(x, 9, "length", 0, 4);
        x.silence(0, 0);
        x.wave(0, 4, 147, 9000, 320);
        x.encode(0);
        Edge.due(x, 35, "length", 0, 5);
        x.encode(0);
        Edge.due(x, 37, "length", 0, 6);
        // frames that were lost or dropped since were encoded, all the same
        x.drop(0, 6);
        x.wave(0, 4, 147, 9000, 160);
        x.encode(0);
        Edge.due(x, 37, "length", 0, 6);
        int sum = 165;
        for (int k = 0; k < 36; k++) {
            sum ^= x.byteOf(0, 6, k);
        }
        Edge.due(x, sum, "byteOf", 0, 6, 36);
        // 147 less 20, the greatest lag
        VoiceHouse y = Scene.coder(0);
        y.search(0, 0, 1);
        y.redundancy(0, true);
        y.wave(0, 4, 147, 9000, 160);
        y.encode(0);
        p = y.pick(0, 3, 1);
        y.wave(0, 0, 0, 0, 160);
        y.encode(0);
        Edge.due(y, 127, "byteOf", 0, 1, 34);
        Edge.due(y, p, "byteOf", 0, 1, 35);
    }

    private static void numbers() {
        Edge.of(Document.ENCODING, "NUMBERS go from 0 on, and again behind 65535. It comes to the end of the LINE with "
            + "its NUMBER as LABEL.");
        VoiceHouse x = Scene.coder(0);
        x.start(0, 65535);
        x.feed(0, 5);
        x.silence(0, 32769);
        x.drop(0, 0);
        x.wave(0, 0, 5, 0, 320);
        x.feed(0, 77);
        Edge.due(x, 65535, "encode", 0);
        Edge.due(x, 0, "encode", 0);
        Edge.due(x, 65535, "label", 0, 1);
        Edge.due(x, 0, "label", 0, 2);
        Edge.due(x, 255, "byteOf", 0, 1, 3);
        Edge.due(x, 255, "byteOf", 0, 1, 4);
        Edge.due(x, 0, "byteOf", 0, 2, 3);
        Edge.due(x, 0, "byteOf", 0, 2, 4);
        VoiceHouse y = Scene.coder(0);
        y.wave(0, 0, 5, 0, 160);
        Edge.due(y, 0, "encode", 0);
        Edge.due(y, 1, "count", 0, 3);
    }
}
