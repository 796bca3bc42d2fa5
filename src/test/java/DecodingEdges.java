import java.util.Arrays;

/** Boundary cases of "Terms", part 3 THE LINE: how frames are DECODED, REPAIRED, filtered, JOINED. */
public final class DecodingEdges {
    public static void main(String[] args) {
        late();
        lateWraps();
        firstOfSeveral();
        gap();
        hushByLabel();
        gainAndRate();
        rateOfRepairs();
        mended();
        mendedAcrossTheWrap();
        notMended();
        findingAhead();
        repeated();
        repeatedBehindMended();
        repeatedAtFirst();
        repeatedKeeps();
        noise();
        noiseIsItsOwn();
        tilt();
        comb();
        combOfLongLags();
        emph();
        saturatingFilters();
        joined();
        joinedByStepsOfY();
        joinedByStepsOfOut();
        joinedByFirstSteps();
        joinedAtFirst();
        drift();
        driftBehindTheJoin();
        nextWraps();
        Edge.endTerms(Document.LINE);
    }

    private static void late() {
        Edge.of(Document.LINE, "frames whose LABEL is before NEXT (LABEL less NEXT, modulo 65536, is 32768 or more) "
            + "go: they are LATE.");
        int[][] cases = {{100, 100 + 32767, 0}, {100, 100 + 32768, 1}, {100, 99, 1}, {100, 0, 1}, {100, 65535, 1},
            {100, 101, 0}, {0, 32767, 0}, {0, 32768, 1}, {0, 65535, 1}, {0, 1, 0}, {32768, 65535, 0}, {32768, 0, 1},
            {32768, 32767, 1}};
        for (int[] one : cases) {
            lateness(one[0], one[1], one[2]);
        }
    }

    private static void lateWraps() {
        Edge.of(Document.LINE, "(LABEL less NEXT, modulo 65536, is 32768 or more)");
        int[][] cases = {{65535, 0, 0}, {65535, 1, 0}, {65535, 32766, 0}, {65535, 32767, 1}, {65535, 65534, 1},
            {40000, 40000 + 32767 - 65536, 0}, {40000, 40000 + 32768 - 65536, 1}};
        for (int[] one : cases) {
            lateness(one[0], one[1], one[2]);
        }
        VoiceHouse x = Scene.coder(0);
        x.start(0, 65535);
        for (int label : new int[] {65534, 0, 40000, 65535, 7, 33000}) {
            x.feed(0, label);
        }
        x.decode(0);
        Edge.due(x, 3, "count", 0, 6);
        Edge.due(x, 2, "count", 0, 1);
        Edge.due(x, 0, "label", 0, 0);
        Edge.due(x, 7, "label", 0, 1);
        Edge.due(x, 3, "finding", 0);
    }

    private static void lateness(int next, int label, int late) {
        VoiceHouse x = Scene.coder(0);
        x.start(0, next);
        x.feed(0, label);
        x.decode(0);
        Check.due("LATE of " + label + " at " + next, x.count(0, 6), late);
        Check.due("frames left of " + label + " at " + next, x.count(0, 1), 1 - late);
        Check.due("FINDING of " + label + " at " + next, x.finding(0), 7);
    }

    private static void firstOfSeveral() {
        Edge.of(Document.LINE, "Of those with the LABEL NEXT the first goes, and is OPENED;");
        VoiceHouse x = Scene.coder(0);
        Frames.sealed(x, 0, 1, Frames.voice(2, 20));
        Frames.sealed(x, 0, 0, Frames.voice(4, 20));
        Frames.sealed(x, 0, 0, Frames.voice(6, 20));
        Frames.sealed(x, 0, 0, Frames.voice(8, 20));
        x.order(0, 3, 1);
        x.decode(0);
        Edge.due(x, 4, "out", 0, 8);
        Edge.due(x, 0, "out", 0, 4);
        Edge.due(x, 3, "count", 0, 1);
        Edge.due(x, 0, "count", 0, 6);
        // the others are LATE at the next one, and no GAP is there
        x.decode(0);
        Edge.due(x, 2, "count", 0, 6);
        Edge.due(x, 4, "out", 0, 2);
        Edge.due(x, 0, "found", 7);
        // a lost one that comes first hides a good one
        VoiceHouse y = Scene.coder(0);
        Frames.sealed(y, 0, 0, Frames.voice(4, 20));
        y.again(0, 0);
        y.lose(0, 0);
        y.decode(0);
        Edge.due(y, 1, "finding", 0);
        Edge.due(y, 1, "count", 0, 1);
    }

    private static void gap() {
        Edge.of(Document.LINE, "without any: FINDING 7, GAP.");
        VoiceHouse x = Scene.coder(0);
        x.feed(0, 2);
        for (int n = 1; n <= 2; n++) {
            x.decode(0);
            Edge.due(x, 7, "finding", 0);
            Edge.due(x, n, "found", 7);
            Edge.due(x, 1, "count", 0, 1);
        }
        x.decode(0);
        Edge.due(x, 3, "finding", 0);
        Edge.due(x, 2, "found", 7);
        Edge.due(x, 0, "count", 0, 1);
    }

    private static void hushByLabel() {
        Edge.of(Document.LINE, "SILENCE: HUSH with z = LABEL, RATE the frame's, GAIN 0.");
        for (int label : new int[] {0, 65535}) {
            VoiceHouse x = Scene.coder(0);
            x.start(0, label);
            // the NUMBER in its HEAD is another one
            Frames.sealed(x, 0, label, Frames.with(Frames.silence(1, 256), 3, 1, 4, 2));
            Edge.due(x, 320, "decode", 0);
            int[] draws = Frames.draws(label, 320);
            for (int n = 0; n < 320; n++) {
                Edge.told(x, draws[n], "out", 0, n);
            }
            Edge.due(x, 40, "state", 0, 1, 3, 0);
        }
    }

    /** Whether NOISE is heard behind these frames and a GAP: its strength is GAIN >> 4. */
    private static boolean noisy(int[]... rows) {
        VoiceHouse x = Scene.coder(0);
        VoiceHouse plain = Scene.coder(0);
        x.stage(0, 0, 1);
        for (int label = 0; label < rows.length; label++) {
            Frames.sealed(x, 0, label, rows[label]);
            Frames.sealed(plain, 0, label, rows[label]);
            x.decode(0);
            plain.decode(0);
        }
        x.join(0, 32767);
        plain.join(0, 32767);
        x.feed(0, 99);
        plain.feed(0, 99);
        x.decode(0);
        plain.decode(0);
        boolean differs = false;
        for (int n = 0; n < 160; n++) {
            differs |= x.out(0, n) != plain.out(0, n);
        }
        return differs;
    }

    private static void gainAndRate() {
        Edge.of(Document.LINE, "GAIN (0 at first) G(j) of the last PART.");
        Check.isTrue("no noise at first", !noisy());
        // G(7) is 14, and 14 >> 4 is 0; G(8) is 16
        Check.isTrue("no noise of 14", !noisy(Frames.with(Frames.voice(0, 20), 33, 7)));
        Check.isTrue("noise of 16", noisy(Frames.with(Frames.voice(0, 20), 33, 8)));
        Check.isTrue("no noise by another PART", !noisy(Frames.with(Frames.voice(0, 20), 18, 51, 23, 51, 28, 51)));
        Check.isTrue("no noise behind SILENCE", !noisy(Frames.with(Frames.voice(0, 20), 33, 51), Frames.silence(0, 9)));
    }

    private static void rateOfRepairs() {
        Edge.of(Document.LINE, "With a FINDING it is REPAIRED, RATE (at first that of coder()) and GAIN as they were:");
        for (int rate = 0; rate < 2; rate++) {
            int size = 160 + 160 * rate;
            VoiceHouse x = Scene.coder(rate);
            x.rate(0, 1 - rate);
            x.feed(0, 0);
            Edge.due(x, size, "decode", 0);
            // a damaged frame's own RATE does not count
            int i = Frames.sealed(x, 0, 1, Frames.with(Frames.voice(0, 20), 1, 1 - rate));
            x.damage(0, i, 34, 1);
            Edge.due(x, size, "decode", 0);
            Frames.sealed(x, 0, 2, Frames.silence(1 - rate, 9));
            Edge.due(x, 480 - size, "decode", 0);
            x.feed(0, 3);
            Edge.due(x, 480 - size, "decode", 0);
            // nor does that of the frame that mends
            Frames.sealed(x, 0, 5, Frames.with(Frames.mending(0, 0), 1, rate));
            Edge.due(x, 480 - size, "decode", 0);
            Edge.due(x, 3, "repair", 0);
        }
    }

    /** The last PART of the frame before has 4096, 2048, -1024 at its begin, and the same at 21. */
    private static VoiceHouse spoken() {
        VoiceHouse x = Scene.coder(0);
        Frames.sealed(x, 0, 0, Frames.with(Frames.voice(0, 20), 29, 20, 33, 40));
        x.decode(0);
        return x;
    }

    private static void mended() {
        Edge.of(Document.LINE, "and has two bytes of REDUNDANCY or more, MENDED: LAG is 20 and the lowest seven bits "
            + "of the first one, A is 5 times the lowest three of the second one;");
        int[][] cases = {{20, 7}, {20 + 128, 7 + 248}, {20, 1}, {20, 0}, {20, 8}, {0, 7}, {127, 7}, {255, 255}};
        for (int[] one : cases) {
            VoiceHouse x = spoken();
            int[] h = new int[320];
            for (int k = 0; k < 160; k++) {
                h[k] = x.state(0, 1, 0, k);
            }
            Frames.sealed(x, 0, 2, Frames.mending(one[0], one[1]));
            x.decode(0);
            int lag = 20 + one[0] % 128;
            Edge.due(x, 3, "repair", 0);
            Edge.due(x, lag, "state", 0, 1, 3, 0);
            for (int n = 160; n < 320; n++) {
                // of each PART what is LAG before its begin, going round
                int begin = n - n % 40;
                h[n] = Math.floorDiv(5 * (one[1] % 8) * h[begin - lag + (n - begin) % lag], 32);
                Edge.told(x, h[n], "state", 0, 1, 0, n - 160);
            }
            Edge.due(x, 1, "count", 0, 1);
        }
        VoiceHouse x = spoken();
        Frames.sealed(x, 0, 2, Frames.with(Arrays.copyOf(Frames.mending(55, 3), 64), 5, 30));
        x.decode(0);
        Edge.due(x, 3, "repair", 0);
        Edge.due(x, 75, "state", 0, 1, 3, 0);
        // SILENCE can tell, too
        Frames.sealed(x, 0, 3, 2, 0, 2, 0, 0, 2, 0, 0, 66, 1, 0);
        x.drop(0, 0);
        x.decode(0);
        Edge.due(x, 3, "repair", 0);
        Edge.due(x, 86, "state", 0, 1, 3, 0);
    }

    private static void mendedAcrossTheWrap() {
        Edge.of(Document.LINE, "if the first frame in the LINE with the LABEL NEXT and 1 (modulo 65536), which stays "
            + "there, is OPENED");
        VoiceHouse x = Scene.coder(0);
        x.start(0, 65535);
        Frames.sealed(x, 0, 0, Frames.mending(77, 0));
        x.decode(0);
        Edge.due(x, 3, "repair", 0);
        Edge.due(x, 97, "state", 0, 1, 3, 0);
        Edge.due(x, 1, "count", 0, 1);
        x.decode(0);
        Edge.due(x, 0, "finding", 0);
        Edge.due(x, 0, "repair", 0);
        // 2 behind is not 1 behind
        VoiceHouse y = Scene.coder(0);
        y.start(0, 65535);
        Frames.sealed(y, 0, 1, Frames.mending(77, 0));
        y.decode(0);
        Edge.due(y, 2, "repair", 0);
        y.decode(0);
        Edge.due(y, 3, "repair", 0);
    }

    private static void notMended() {
        Edge.of(Document.LINE, "and has two bytes of REDUNDANCY or more, MENDED");
        for (int spare = 0; spare <= 3; spare++) {
            VoiceHouse x = Scene.coder(0);
            Frames.sealed(x, 0, 1, Frames.with(Frames.mending(77, 7), 5, spare));
            x.decode(0);
            Edge.due(x, spare < 2 ? 2 : 3, "repair", 0);
            Edge.due(x, spare < 2 ? 40 : 97, "state", 0, 1, 3, 0);
            Edge.due(x, spare < 2 ? 0 : 1, "count", 0, 8);
            Edge.due(x, 1, "count", 0, 7);
        }
        // the first with that LABEL alone is looked at
        VoiceHouse x = Scene.coder(0);
        Frames.sealed(x, 0, 1, Frames.voice(0, 20));
        Frames.sealed(x, 0, 1, Frames.mending(77, 7));
        x.decode(0);
        Edge.due(x, 2, "repair", 0);
    }

    private static void findingAhead() {
        Edge.of(Document.LINE, "its BODY read, too, without FINDING (one there counts, but is not told by finding())");
        for (int finding = 1; finding <= 6; finding++) {
            VoiceHouse x = Scene.coder(0);
            int i = Frames.sealed(x, 0, 1, Frames.mending(77, 7));
            Frames.spoil(x, 0, i, finding);
            x.decode(0);
            Edge.due(x, 2, "repair", 0);
            Edge.due(x, 7, "finding", 0);
            Edge.due(x, 1, "found", finding);
            Edge.due(x, 1, "found", 7);
            x.decode(0);
            Edge.due(x, finding, "finding", 0);
            Edge.due(x, 2, "found", finding);
        }
        // behind a good frame none is looked at
        VoiceHouse x = Scene.coder(0);
        Frames.sealed(x, 0, 0, Frames.voice(0, 20));
        x.feed(0, 1);
        x.decode(0);
        Edge.due(x, 0, "found", 3);
    }

    /** The LAG of 147 takes each PART from the frame before, or nearly: so much is left for each A to show. */
    private static void repeated() {
        Edge.of(Document.LINE, "REPEATED: LAG as it was, A is 28, 20, 12, 4, then 0, by how many frames just before "
            + "were REPAIRED.");
        int[] a = {28, 20, 12, 4, 0, 0, 0};
        int[] row = Frames.with(Frames.voice(0, 20), 18, 51, 23, 51, 28, 51, 29, 127, 33, 51);
        int[] h = new int[160 + 160 * a.length];
        for (int frame = 0; frame < a.length; frame++) {
            VoiceHouse x = Scene.coder(0);
            Frames.sealed(x, 0, 0, row);
            x.decode(0);
            for (int k = 0; k < 160; k++) {
                h[k] = x.out(0, k);
            }
            for (int before = 0; before <= frame; before++) {
                x.decode(0);
            }
            int greatest = 0;
            for (int n = 0; n < 160; n++) {
                int at = 160 + 160 * frame + n;
                h[at] = Math.floorDiv(a[frame] * h[at - 147], 32);
                greatest = Math.max(greatest, h[at - 147]);
                Edge.told(x, h[at], "state", 0, 1, 0, n);
            }
            Check.isTrue("enough to repeat, frame " + frame, frame > 4 || greatest > 100);
            Edge.due(x, 147, "state", 0, 1, 3, 0);
        }
    }

    /** A MENDED one counts as REPAIRED; one that was not ends the row of them. */
    private static void repeatedBehindMended() {
        Edge.of(Document.LINE, "by how many frames just before were REPAIRED.");
        VoiceHouse x = spoken();
        Frames.sealed(x, 0, 2, Frames.mending(20, 7));
        x.decode(0);
        Edge.due(x, 3, "repair", 0);
        int before = x.state(0, 1, 0, 120);
        x.drop(0, 0);
        x.feed(0, 500);
        x.decode(0);
        Edge.due(x, Math.floorDiv(20 * before, 32), "state", 0, 1, 0, 0);
        for (int sort = 0; sort < 2; sort++) {
            Frames.sealed(x, 0, 3 + 3 * sort, sort == 0 ? Frames.with(Frames.voice(0, 20), 29, 20, 33, 40)
                : Frames.silence(0, 30000));
            x.decode(0);
            before = x.state(0, 1, 0, 120);
            Check.isTrue("something to repeat", Math.abs(before) > 100);
            x.decode(0);
            Edge.due(x, Math.floorDiv(28 * before, 32), "state", 0, 1, 0, 0);
            x.decode(0);
        }
    }

    private static void repeatedAtFirst() {
        Edge.of(Document.LINE, "else REPEATED: LAG as it was");
        VoiceHouse x = Scene.coder(1);
        x.feed(0, 500);
        Edge.due(x, 320, "decode", 0);
        for (int n = 0; n < 320; n += 40) {
            Edge.due(x, 0, "out", 0, n);
        }
        Edge.due(x, 40, "state", 0, 1, 3, 0);
        Edge.due(x, 2, "repair", 0);
    }

    private static void repeatedKeeps() {
        Edge.of(Document.LINE, "For each PART e(n) = S((A a(n)) >> 5), BEHIND LAG; H, SYNTHESIS as above, with the "
            + "INDEXES as they were.");
        VoiceHouse x = Scene.coder(0);
        Frames.sealed(x, 0, 0, Frames.with(Frames.voice(38, 38), 6, 1, 13, 63, 29, 0));
        x.decode(0);
        x.decode(0);
        Edge.due(x, 2, "repair", 0);
        Edge.due(x, -31, "state", 0, 1, 2, 0);
        Edge.due(x, 31, "state", 0, 1, 2, 7);
        // a lag of 20 goes round within a PART: 28 of 32 of 4 and 6
        for (int part = 0, a = 4, b = 6; part < 4; part++) {
            a = 28 * a / 32;
            b = 28 * b / 32;
            for (int round = 0; round < 2; round++) {
                Edge.due(x, a, "state", 0, 1, 0, 40 * part + 20 * round + 18);
                Edge.due(x, b, "state", 0, 1, 0, 40 * part + 20 * round + 19);
                Edge.due(x, 0, "state", 0, 1, 0, 40 * part + 20 * round);
            }
        }
        // A of 35 on the loudest excitation is beyond a sample
        VoiceHouse y = Scene.coder(0);
        Frames.sealed(y, 0, 0, Frames.with(Frames.voice(4, 4), 29, 20, 33, 51));
        y.decode(0);
        Edge.due(y, 1, "saturations");
        Frames.sealed(y, 0, 2, Frames.mending(20, 7));
        y.decode(0);
        Edge.due(y, 32767, "state", 0, 1, 0, 5);
        Edge.due(y, 31360, "state", 0, 1, 0, 4);
        // 32767 in each PART, 28672 * 35 / 32 = 31360 in the first, 34300 in the second
        Edge.due(y, 32767, "state", 0, 1, 0, 44);
    }

    private static void noise() {
        Edge.of(Document.LINE, "1 NOISE: y(n) = S(y(n) + ((DRAW * (GAIN >> 4)) >> 8)), from its z, 1 at first.");
        VoiceHouse x = Scene.coder(0);
        VoiceHouse plain = Scene.coder(0);
        x.stage(0, 0, 1);
        int[] draws = Frames.draws(1, 5 * 160);
        // GAINS of 14, 16, 28672, then SILENCE, in which it draws, too
        int[] gains = {14, 16, 28672, 0, 28672};
        int[] js = {7, 8, 51, 0, 51};
        for (int label = 0; label < 5; label++) {
            int[] row = label == 3 ? Frames.silence(0, 30) : Frames.with(Frames.voice(0, 20), 33, js[label]);
            Frames.sealed(x, 0, label, row);
            Frames.sealed(plain, 0, label, row);
            x.decode(0);
            plain.decode(0);
            for (int n = 0; n < 160; n += 3) {
                int v = plain.out(0, n) + Math.floorDiv(draws[160 * label + n] * (gains[label] / 16), 256);
                Edge.told(x, Math.max(-32768, Math.min(32767, v)), "out", 0, n);
            }
        }
    }

    private static void noiseIsItsOwn() {
        Edge.of(Document.LINE, "Each has its own memory, all 0 at first, from frame to frame.");
        VoiceHouse twice = Scene.coder(0);
        VoiceHouse once = Scene.coder(0);
        VoiceHouse plain = Scene.coder(0);
        twice.stage(0, 1, 1);
        twice.stage(0, 2, 1);
        once.stage(0, 0, 1);
        for (VoiceHouse x : new VoiceHouse[] {twice, once, plain}) {
            Frames.sealed(x, 0, 0, Frames.with(Frames.voice(0, 20), 33, 40));
            x.decode(0);
        }
        for (int n = 0; n < 120; n++) {
            int added = once.out(0, n) - plain.out(0, n);
            Edge.due(twice, once.out(0, n) + added, "out", 0, n);
        }
    }

    private static void tilt() {
        Edge.of(Document.LINE, "2 TILT: S(y(n) - HALF(y(n - 1), 8192)), of what came.");
        VoiceHouse x = Scene.coder(0);
        x.stage(0, 2, 2);
        Frames.sealed(x, 0, 0, Frames.with(Frames.voice(38, 38), 33, 4));
        x.decode(0);
        // the last PART ends with 8 and 12: 12 less a quarter of 8
        Edge.due(x, 8, "out", 0, 158);
        Edge.due(x, 10, "out", 0, 159);
        Frames.sealed(x, 0, 1, Frames.voice(0, 20));
        x.decode(0);
        // 12 came last: 4 less 3, then 2 less 1
        Edge.due(x, 1, "out", 0, 0);
        Edge.due(x, 1, "out", 0, 1);
    }

    /** VOICE tells the LAG, the loud SILENCE behind it leaves it: every sample has something LAG before it. */
    private static void comb() {
        Edge.of(Document.LINE, "3 COMB: TILT, and of what comes of that S(y(n) + HALF(c(n - LAG), 6554)), c being what "
            + "it gave (its latest 160 are kept), LAG that of the STATE behind this frame.");
        int[] lags = {40, 147, 147, 20, 20};
        for (int rate = 0; rate < 2; rate++) {
            int[][] rows = new int[5][];
            for (int label = 0; label < 5; label++) {
                rows[label] = label % 2 == 0 ? Frames.silence(rate, 20000)
                    : Frames.with(Frames.voice(0, 20), 1, rate, 18, 40, 33, 44, 29, lags[label] - 20);
            }
            int size = 160 + 160 * rate;
            long[] c = new long[5 * size];
            VoiceHouse x = Scene.coder(0);
            x.stage(0, 0, 3);
            for (int label = 0; label < 5; label++) {
                VoiceHouse tilted = Scene.coder(0);
                tilted.stage(0, 0, 2);
                for (int before = 0; before <= label; before++) {
                    Frames.sealed(tilted, 0, before, rows[before]);
                    tilted.decode(0);
                }
                Frames.sealed(x, 0, label, rows[label]);
                x.decode(0);
                for (int n = 0; n < size; n++) {
                    int at = label * size + n;
                    long back = at < lags[label] ? 0 : c[at - lags[label]];
                    c[at] = tilted.out(0, n) + Math.floorDiv(back * 6554 + 16384, 32768L);
                    if (n % 9 == 0 || n == size - 1) {
                        Edge.told(x, c[at], "out", 0, n);
                    }
                }
            }
        }
    }

    /** A GAP leaves LAG, a MENDED frame changes it: COMB goes by what it is behind the frame. */
    private static void combOfLongLags() {
        Edge.of(Document.LINE, "LAG that of the STATE behind this frame.");
        VoiceHouse x = Scene.coder(0);
        x.stage(0, 0, 3);
        x.join(0, 32767);
        Frames.sealed(x, 0, 0, Frames.with(Frames.voice(0, 20), 29, 20, 33, 40));
        x.decode(0);
        int[] c = new int[160];
        for (int n = 0; n < 160; n++) {
            c[n] = x.out(0, n);
        }
        int came = 0;
        Frames.sealed(x, 0, 2, Frames.mending(127, 0));
        x.decode(0);
        Edge.due(x, 3, "repair", 0);
        for (int n = 0; n < 100; n++) {
            // y is 0, but the first sample has a quarter of what came last to lose
            int y = n == 0 ? -Math.floorDiv(came * 8192 + 16384, 32768) : 0;
            Edge.due(x, y + Math.floorDiv(c[13 + n] * 6554 + 16384, 32768), "out", 0, n);
        }
    }

    private static void emph() {
        Edge.of(Document.LINE, "4 EMPH: S(y(n) + HALF(o(n - 1), 22282)), o being what it gave.");
        VoiceHouse x = Scene.coder(0);
        x.stage(0, 3, 4);
        Frames.sealed(x, 0, 0, Frames.with(Frames.voice(38, 38), 33, 8));
        x.decode(0);
        // 16 and, behind it, 24: with 0.68 of what came before, which had gone down to 1 by then
        Edge.due(x, 17, "out", 0, 158);
        Edge.due(x, 24 + 12, "out", 0, 159);
        Frames.sealed(x, 0, 1, Frames.voice(10, 20));
        x.decode(0);
        int last = 36;
        for (int n = 0; n < 10; n++) {
            last = Math.floorDiv(last * 22282 + 16384, 32768);
            Edge.due(x, last, "out", 0, n);
        }
    }

    /** The loudest SILENCE has neighbours of great steps: each FILTER meets S in both directions, and counts it. */
    private static void saturatingFilters() {
        Edge.of(Document.LINE, "Then y goes through the PATH, places 0 to 3 in order, each with a FILTER (0 none)");
        for (int kind = 2; kind <= 4; kind++) {
            VoiceHouse x = Scene.coder(0);
            VoiceHouse plain = Scene.coder(0);
            x.stage(0, 1, kind);
            Frames.sealed(x, 0, 0, Frames.silence(0, 65535));
            Frames.sealed(plain, 0, 0, Frames.silence(0, 65535));
            x.decode(0);
            plain.decode(0);
            Edge.due(plain, 0, "saturations");
            int[] y = new int[160];
            int high = 0, low = 0;
            for (int n = 0; n < 160; n++) {
                int came = plain.out(0, n), before = n == 0 ? 0 : plain.out(0, n - 1), given = n == 0 ? 0 : y[n - 1];
                int v = kind == 4 ? came + Math.floorDiv(given * 22282 + 16384, 32768)
                    : came - Math.floorDiv(before * 8192 + 16384, 32768);
                high += v > 32767 ? 1 : 0;
                low += v < -32768 ? 1 : 0;
                v = Math.max(-32768, Math.min(32767, v));
                if (kind == 3) {
                    // LAG is 40, as at first
                    v += Math.floorDiv((n < 40 ? 0 : y[n - 40]) * 6554 + 16384, 32768);
                    high += v > 32767 ? 1 : 0;
                    low += v < -32768 ? 1 : 0;
                    v = Math.max(-32768, Math.min(32767, v));
                }
                y[n] = v;
                Edge.due(x, v, "out", 0, n);
            }
            Check.isTrue("both directions of kind " + kind, high > 0 && low > 0);
            Edge.due(x, high + low, "saturations");
        }
    }

    private static void joined() {
        Edge.of(Document.LINE, "if this frame or the one decoded before it was REPAIRED: B is the greatest of BOUND "
            + "(2000 at first), of the steps between neighbours in y, and of those in OUT as it is;");
        VoiceHouse x = spoken();
        boolean[] repaired = {false, true, false, false, true, true, false, false};
        for (int label = 1; label < 8; label++) {
            if (!repaired[label]) {
                Frames.sealed(x, 0, label, Frames.voice(0, 20));
            }
            x.decode(0);
            boolean due = repaired[label] || repaired[label - 1];
            Check.due("JOINED, frame " + label, x.trace(x.told(2) - 1) == 60 ? 1 : 0, due ? 1 : 0);
        }
        // a BOUND of 2000 at first: OUT ends with 1536 and has steps of 1024, y is 0; 3072 and 2048 are beyond it
        int[][] cases = {{32, 0}, {36, 3072 - 2048}};
        for (int[] one : cases) {
            VoiceHouse y = Scene.coder(0);
            Frames.sealed(y, 0, 0, Frames.with(Frames.voice(38, 38), 33, one[0]));
            y.decode(0);
            Frames.sealed(y, 0, 2, Frames.mending(20, 0));
            y.decode(0);
            Edge.due(y, one[1], "out", 0, 0);
            Edge.due(y, 0, "out", 0, 1);
        }
    }

    /** OUT is a held 16 or so; y has 4, 2, -1, 0 .. and steps of 4: B is 4, though BOUND is 1 and OUT has none. */
    private static void joinedByStepsOfY() {
        Edge.of(Document.LINE, "from the first sample on each becomes the nearest to it that is within B of what the "
            + "one before has become");
        VoiceHouse x = Scene.coder(0);
        Frames.sealed(x, 0, 0, Frames.with(Frames.voice(0, 20), 6, 1));
        x.decode(0);
        for (int next = 1; next <= 3; next++) {
            Frames.sealed(x, 0, next + 1, Frames.mending(20, 0));
            x.decode(0);
            x.drop(0, 0);
        }
        int last = x.out(0, 159);
        Edge.due(x, last, "out", 0, 0);
        x.join(0, 1);
        Frames.sealed(x, 0, 4, Frames.voice(0, 20));
        x.decode(0);
        int[] y = {4, 2, -1, 0, 0, 0, 0};
        Check.isTrue("more than one step off", last > 8);
        for (int n = 0; n < y.length; n++) {
            last = Math.max(y[n], last - 4);
            Edge.due(x, last, "out", 0, n);
        }
    }

    private static void joinedByStepsOfOut() {
        Edge.of(Document.LINE, "and of those in OUT as it is;");
        for (int bound : new int[] {1, 4095, 4096, 4097, 5000, 6143, 6144}) {
            VoiceHouse x = Scene.coder(0);
            x.join(0, bound);
            // OUT ends with 0, 4096, 6144: steps of 4096 and 2048
            Frames.sealed(x, 0, 0, Frames.with(Frames.voice(38, 38), 33, 40));
            x.decode(0);
            Edge.due(x, 6144, "out", 0, 159);
            Frames.sealed(x, 0, 2, Frames.mending(20, 0));
            x.decode(0);
            Edge.due(x, 6144 - Math.max(4096, bound), "out", 0, 0);
            Edge.due(x, 0, "out", 0, 1);
            // the OUT of that is the one that counts now, its first step, from the OUT before, is none of it
            Frames.sealed(x, 0, 2, Frames.with(Frames.voice(38, 38), 33, 40));
            x.drop(0, 0);
            x.decode(0);
            Edge.due(x, 4096, "out", 0, 158);
        }
    }

    /** An even pulse, turned, at 0 and an odd one at 1: -4096, 2048, 3072, -1024: the first step is the greatest. */
    private static void joinedByFirstSteps() {
        Edge.of(Document.LINE, "of the steps between neighbours in y, and of those in OUT as it is;");
        VoiceHouse x = Scene.coder(0);
        Frames.sealed(x, 0, 0, Frames.with(Frames.voice(38, 38), 29, 20, 33, 36));
        x.decode(0);
        Frames.sealed(x, 0, 2, Frames.with(Frames.mending(20, 7), 16, 1, 17, 0, 18, 40));
        x.decode(0);
        Edge.due(x, 3, "repair", 0);
        int last = x.out(0, 159);
        Check.isTrue("more than that step away", last > 2048);
        x.decode(0);
        Edge.due(x, last - 6144, "out", 0, 0);
        Edge.due(x, 2048, "out", 0, 1);
        // OUT begins so, and ends with 4096, 6144; 120 before the next frame it has -4096, of which 5 of 32 are taken
        VoiceHouse y = Scene.coder(0);
        int[] row = Frames.with(Frames.voice(38, 38), 16, 1, 17, 0, 18, 40, 21, 1, 22, 20, 23, 40, 29, 100, 33, 40);
        Frames.sealed(y, 0, 0, row);
        y.decode(0);
        Edge.due(y, -4096, "out", 0, 0);
        Edge.due(y, 2048, "out", 0, 1);
        Edge.due(y, 6144, "out", 0, 159);
        Frames.sealed(y, 0, 2, Frames.mending(100, 1));
        y.decode(0);
        Edge.due(y, -640, "state", 0, 1, 0, 0);
        Edge.due(y, 6144 - 6144, "out", 0, 0);
    }

    private static void joinedAtFirst() {
        Edge.of(Document.LINE, "(the first one: of OUT's last, 0 without)");
        VoiceHouse x = Scene.coder(0);
        x.join(0, 1);
        x.feed(0, 0);
        x.decode(0);
        Edge.due(x, 0, "out", 0, 0);
        Edge.due(x, 60, "trace", x.told(2) - 1);
        Frames.sealed(x, 0, 1, Frames.with(Frames.voice(0, 20), 18, 40));
        x.decode(0);
        // steps of 4096 in y: as it is
        Edge.due(x, 4096, "out", 0, 0);
        // by OUT's last, also where a DRIFT made OUT shorter, or longer
        for (int d = -1; d <= 1; d++) {
            VoiceHouse y = Scene.coder(0);
            Frames.sealed(y, 0, 0, Frames.with(Frames.voice(38, 38), 33, 40));
            y.drift(0, d);
            y.decode(0);
            Edge.due(y, 6144, "out", 0, 159 + d);
            Frames.sealed(y, 0, 2, Frames.mending(20, 0));
            y.decode(0);
            Edge.due(y, 2048, "out", 0, 0);
        }
    }

    private static void drift() {
        Edge.of(Document.LINE, "if DRIFT is due: 1: behind sample N / 2 - 1 the mean of it and the next one (their sum "
            + ">> 1) is put in; -1: sample N / 2 goes; none is due then.");
        for (int rate = 0; rate < 2; rate++) {
            int size = 160 + 160 * rate, middle = size / 2, end = size / 4 - 2;
            for (int turned = 0; turned < 2; turned++) {
                // before the middle 4, 6 (or -4, -6), behind it G(1) = 5: 5, 2, -2
                int[] row = Frames.with(Frames.voice(end + turned, end + turned), 1, rate, 26, 0, 27, 20, 28, 1);
                int sign = turned == 0 ? 1 : -1;
                VoiceHouse x = Scene.coder(0);
                Frames.sealed(x, 0, 0, row);
                x.drift(0, 1);
                Edge.due(x, size + 1, "decode", 0);
                int[] more = {4 * sign, 6 * sign, turned == 0 ? 5 : -1, 5, 2, -2};
                for (int k = 0; k < more.length; k++) {
                    Edge.due(x, more[k], "out", 0, middle - 2 + k);
                }
                Edge.due(x, 6 * sign, "out", 0, size);
                Frames.sealed(x, 0, 1, row);
                x.drift(0, -1);
                Edge.due(x, size - 1, "decode", 0);
                int[] less = {4 * sign, 6 * sign, 2, -2};
                for (int k = 0; k < less.length; k++) {
                    Edge.due(x, less[k], "out", 0, middle - 2 + k);
                }
                Edge.due(x, 6 * sign, "out", 0, size - 2);
                Frames.sealed(x, 0, 2, row);
                Edge.due(x, size, "decode", 0);
                Edge.due(x, 5, "out", 0, middle);
            }
        }
    }

    /** A REPAIRED frame is JOINED first, then DRIFT takes the mean of what has become of its samples. */
    private static void driftBehindTheJoin() {
        Edge.of(Document.LINE, "Then, JOINED or not, if DRIFT is due");
        for (int d = -1; d <= 1; d += 2) {
            VoiceHouse x = spoken();
            x.drift(0, d);
            Edge.due(x, 160 + d, "decode", 0);
            Edge.due(x, 2, "repair", 0);
            // 28 of 32 of 4096 at the begin of the first PART, once more of that at the third one's
            int third = 28 * (28 * (28 * 4096 / 32) / 32) / 32;
            if (d == 1) {
                Edge.due(x, Math.floorDiv(x.out(0, 79) + third, 2), "out", 0, 80);
                Edge.due(x, third, "out", 0, 81);
            } else {
                Edge.due(x, Math.floorDiv(28 * Math.floorDiv(28 * Math.floorDiv(28 * 2048, 32), 32), 32), "out", 0, 80);
            }
        }
    }

    private static void nextWraps() {
        Edge.of(Document.LINE, "OUT is y; NEXT is one more (modulo 65536).");
        VoiceHouse x = Scene.coder(0);
        x.start(0, 65534);
        x.feed(0, 500);
        for (int next : new int[] {65535, 0, 1}) {
            x.decode(0);
            Edge.due(x, next, "count", 0, 2);
        }
        Edge.due(x, 65534, "count", 0, 3);
    }
}
