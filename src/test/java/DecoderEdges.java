/** Boundary cases of promises 28 to 35: decode, out, state, finding, repair, stage, join, drift. */
public final class DecoderEdges {
    private static final int MIN = Integer.MIN_VALUE, MAX = Integer.MAX_VALUE;

    public static void main(String[] args) {
        decode();
        decodeIsNotRefused();
        decodeAnswers();
        decodeBehindTheWrap();
        out();
        outOfEachLength();
        state();
        stateOfBothSides();
        finding();
        repair();
        stage();
        stageIsNew();
        join();
        joinBounds();
        drift();
        driftIsDueOnce();
        Edge.endPromises(28, 35);
    }

    private static void decode() {
        Edge.of(28, "BAD; STATE: the LINE is empty, and NEXT is the next NUMBER.");
        Edge.noSuchCoder("decode");
        Edge.refused(Scene.BUSY, Edge.STATE, "decode", 2);
        Edge.refused(Scene.FULL_HOUSE, Edge.STATE, "decode", 7);
        VoiceHouse x = Scene.coder(0);
        x.start(0, 9);
        Edge.refusedOn(x, Edge.STATE, "decode", 0);
        x.wave(0, 0, 5, 0, 160);
        Edge.refusedOn(x, Edge.STATE, "decode", 0);
        x.encode(0);
        Edge.due(x, 160, "decode", 0);
        Edge.refusedOn(x, Edge.STATE, "decode", 0);
        Edge.due(x, 10, "count", 0, 2);
        Edge.due(x, 1, "count", 0, 5);
        Edge.due(x, 0, "found", 7);
    }

    /** An empty LINE alone is no reason, nor is NEXT alone. */
    private static void decodeIsNotRefused() {
        Edge.of(28, "STATE: the LINE is empty, and NEXT is the next NUMBER.");
        VoiceHouse x = Scene.coder(0);
        x.wave(0, 0, 5, 0, 160);
        x.encode(0);
        x.drop(0, 0);
        Edge.due(x, 160, "decode", 0);
        Edge.due(x, 7, "finding", 0);
        Edge.refusedOn(x, Edge.STATE, "decode", 0);
        // NEXT is the NUMBER, and in the LINE are a LATE frame, or one far ahead
        x.feed(0, 0);
        Edge.due(x, 160, "decode", 0);
        Edge.due(x, 0, "count", 0, 1);
        Edge.due(x, 2, "count", 0, 2);
        // NEXT is ahead of the NUMBER now, the LINE is empty
        Edge.due(x, 160, "decode", 0);
        Edge.due(x, 3, "found", 7);
        VoiceHouse y = Scene.coder(0);
        y.feed(0, 900);
        Edge.due(y, 160, "decode", 0);
        Edge.due(y, 1, "count", 0, 1);
    }

    private static void decodeAnswers() {
        Edge.of(28, "A frame is DECODED: how many samples OUT has.");
        for (int rate = 0; rate < 2; rate++) {
            VoiceHouse x = Scene.coder(1 - rate);
            for (int d = -1; d <= 1; d++) {
                Frames.sealed(x, 0, d + 1, Frames.silence(rate, 900));
                x.drift(0, d);
                Edge.due(x, 160 + 160 * rate + d, "decode", 0);
                Edge.due(x, d + 2, "count", 0, 5);
                Edge.due(x, d + 2, "count", 0, 2);
            }
        }
    }

    private static void decodeBehindTheWrap() {
        Edge.of(28, "STATE: the LINE is empty, and NEXT is the next NUMBER.");
        VoiceHouse x = Scene.coder(0);
        x.start(0, 65535);
        x.wave(0, 0, 5, 0, 160);
        Edge.due(x, 65535, "encode", 0);
        Edge.due(x, 160, "decode", 0);
        Edge.due(x, 0, "count", 0, 2);
        Edge.due(x, 0, "count", 0, 3);
        Edge.refusedOn(x, Edge.STATE, "decode", 0);
    }

    private static void out() {
        Edge.of(29, "Sample k of OUT. NO: there is none such; status() tells BAD.");
        Edge.noSuchCoder("out", 0);
        for (int k : new int[] {-1, 160, MIN, MAX}) {
            Edge.bad("out", 0, k);
        }
        Edge.bad("out", 1, 0);
        Edge.bad("out", 2, 0);
        Edge.bad("out", 2, -1);
    }

    private static void outOfEachLength() {
        Edge.of(29, "Sample k of OUT. NO: there is none such; status() tells BAD.");
        VoiceHouse x = Scene.coder(1);
        int label = 0;
        for (int rate = 1; rate >= 0; rate--) {
            for (int d = 1; d >= -1; d--) {
                // pulses at the end of each part: the last sample is 6, the one before it 4
                int end = rate == 0 ? 38 : 78;
                Frames.sealed(x, 0, label, Frames.with(Frames.voice(end, end), 1, rate));
                label++;
                x.drift(0, d);
                int size = x.decode(0);
                Check.due("samples", size, 160 + 160 * rate + d);
                Edge.due(x, 6, "out", 0, size - 1);
                Edge.due(x, 4, "out", 0, size - 2);
                Edge.due(x, 0, "out", 0, 0);
                Edge.refusedOn(x, Edge.BAD, "out", 0, size);
            }
        }
    }

    private static void state() {
        Edge.of(30, "NO: none such; status() tells BAD.");
        Edge.noSuchCoder("state", 0, 0, 0);
        for (int v : new int[] {-1, MIN, MAX}) {
            Edge.bad("state", 0, v, 0, 0);
            Edge.bad("state", 0, 0, v, 0);
            for (int what = 0; what <= 3; what++) {
                Edge.bad("state", 0, 1, what, v);
            }
        }
        Edge.bad("state", 0, 2, 0, 0);
        Edge.bad("state", 0, 0, 4, 0);
        Edge.bad("state", 0, 0, 0, 160);
        Edge.bad("state", 0, 1, 1, 8);
        Edge.bad("state", 0, 0, 2, 8);
        Edge.bad("state", 0, 1, 3, 1);
    }

    private static void stateOfBothSides() {
        Edge.of(30, "Of the COPY (side = 0), the DECODER's STATE (1): 0 H(k), 1 V(k), 2 INDEX k + 1, 3 LAG (k = 0).");
        VoiceHouse x = Scene.coder(0);
        Frames.sealed(x, 0, 0, Frames.with(Frames.voice(38, 38), 6, 33, 13, 30, 29, 100));
        x.decode(0);
        Edge.due(x, 0, "state", 0, 1, 0, 0);
        Edge.due(x, 4, "state", 0, 1, 0, 158);
        Edge.due(x, 6, "state", 0, 1, 0, 159);
        Edge.due(x, x.out(0, 159), "state", 0, 1, 1, 0);
        Edge.due(x, 1, "state", 0, 1, 2, 0);
        Edge.due(x, 0, "state", 0, 1, 2, 1);
        Edge.due(x, -2, "state", 0, 1, 2, 7);
        Edge.due(x, 120, "state", 0, 1, 3, 0);
        Edge.due(x, 0, "state", 0, 0, 0, 159);
        Edge.due(x, 0, "state", 0, 0, 1, 0);
        Edge.due(x, 0, "state", 0, 0, 2, 7);
        Edge.due(x, 40, "state", 0, 0, 3, 0);
        // with INDEXES 0 the V are the latest samples, V(7) the eighth of them
        Frames.sealed(x, 0, 1, Frames.voice(32, 10));
        x.decode(0);
        for (int k = 0; k < 8; k++) {
            Edge.due(x, x.out(0, 159 - k), "state", 0, 1, 1, k);
        }
        Edge.due(x, 4, "state", 0, 1, 1, 7);
    }

    private static void finding() {
        Edge.of(31, "The FINDING of the latest decode(): 0 none. BAD.");
        Edge.noSuchCoder("finding");
        VoiceHouse x = Scene.coder(0);
        Edge.due(x, 0, "finding", 0);
        x.feed(0, 0);
        x.decode(0);
        Edge.due(x, 3, "finding", 0);
        Frames.sealed(x, 0, 1, Frames.voice(0, 0));
        x.decode(0);
        Edge.due(x, 0, "finding", 0);
        x.feed(0, 9);
        x.decode(0);
        Edge.due(x, 7, "finding", 0);
        // that of the frame ahead is not told
        x.feed(0, 4);
        x.decode(0);
        Edge.due(x, 7, "finding", 0);
        Edge.due(x, 2, "found", 3);
        x.coder(0);
        Edge.due(x, 0, "finding", 1);
    }

    private static void repair() {
        Edge.of(32, "BAD; NONE: none was.");
        Edge.noSuchCoder("repair");
        Edge.refused(Scene.BUSY, Edge.NONE, "repair", 1);
        Edge.refused(Scene.BUSY, Edge.NONE, "repair", 2);
        Edge.of(32, "How the latest frame was decoded: 0 VOICE, 1 SILENCE, 2 REPEATED, 3 MENDED.");
        VoiceHouse x = Scene.coder(0);
        Edge.refusedOn(x, Edge.NONE, "repair", 0);
        Frames.sealed(x, 0, 0, Frames.silence(0, 9));
        x.decode(0);
        Edge.due(x, 1, "repair", 0);
        Frames.sealed(x, 0, 2, Frames.mending(0, 0));
        x.decode(0);
        Edge.due(x, 3, "repair", 0);
        x.decode(0);
        Edge.due(x, 0, "repair", 0);
        x.feed(0, 3);
        x.decode(0);
        Edge.due(x, 2, "repair", 0);
    }

    private static void stage() {
        Edge.of(33, "BAD: place 0 .. 3, kind 0 .. 6; WRONG: kind 5, 6 (searches, which the PATH's row does not take).");
        Edge.noSuchCoder("stage", 0, 0);
        for (int v : new int[] {-1, MIN, MAX}) {
            Edge.bad("stage", 0, v, 0);
            Edge.bad("stage", 0, 0, v);
        }
        Edge.bad("stage", 0, 4, 0);
        Edge.bad("stage", 0, 0, 7);
        Edge.bad("stage", 0, 4, 5);
        Edge.bad("stage", 3, 0, 5);
        for (int place = 0; place < 4; place++) {
            Edge.refused(Scene.BUSY, Edge.WRONG, "stage", 0, place, 5);
            Edge.refused(Scene.BUSY, Edge.WRONG, "stage", 0, place, 6);
        }
        VoiceHouse x = Scene.FULL_HOUSE.get();
        for (int place = 0; place < 4; place++) {
            int was = 0;
            for (int kind = 4; kind >= 0; kind--) {
                Edge.due(x, was, "stage", 7, place, kind);
                was = kind;
            }
            Edge.due(x, 0, "stage", 7, place, 1 + place);
        }
        for (int place = 0; place < 4; place++) {
            Edge.due(x, 1 + place, "stage", 7, place, 0);
        }
    }

    /** OUT of coder 0 behind one more frame; twins that had the filter put in anew, or never before, are alike. */
    private static void stageIsNew() {
        Edge.of(33, "A FILTER (kind 0 .. 4), new, at a place of the PATH: the kind that was there.");
        for (int kind = 1; kind <= 4; kind++) {
            VoiceHouse fresh = Scene.coder(0);
            VoiceHouse anew = Scene.coder(0);
            VoiceHouse kept = Scene.coder(0);
            anew.stage(0, 3, kind);
            kept.stage(0, 3, kind);
            int[] row = Frames.with(Frames.voice(38, 38), 29, 20, 33, 44);
            boolean differs = false;
            for (int label = 0; label < 2; label++) {
                for (VoiceHouse x : new VoiceHouse[] {fresh, anew, kept}) {
                    Frames.sealed(x, 0, label, row);
                    x.decode(0);
                }
                fresh.stage(0, 3, kind);
                Edge.due(anew, kind, "stage", 0, 3, kind);
            }
            Frames.sealed(fresh, 0, 2, row);
            Frames.sealed(anew, 0, 2, row);
            Frames.sealed(kept, 0, 2, row);
            fresh.decode(0);
            anew.decode(0);
            kept.decode(0);
            for (int n = 0; n < 160; n += 4) {
                Edge.due(anew, fresh.out(0, n), "out", 0, n);
                differs |= kept.out(0, n) != fresh.out(0, n);
            }
            Check.isTrue("kind " + kind + " has a memory", differs);
        }
    }

    private static void join() {
        Edge.of(34, "BOUND, 1 .. 32767: what it was. BAD.");
        Edge.noSuchCoder("join", 5);
        for (int bound : new int[] {0, 32768, -1, MIN, MAX}) {
            Edge.bad("join", 0, bound);
        }
        VoiceHouse x = Scene.FULL_HOUSE.get();
        Edge.due(x, 2000, "join", 7, 1);
        Edge.due(x, 1, "join", 7, 32767);
        Edge.due(x, 32767, "join", 7, 1);
        Edge.due(x, 2000, "join", 0, 1);
    }

    /**
     * INDEX 1 of -31 holds a small sample as it is, when nothing excites it: behind frames that are MENDED with p 0 OUT
     * is that. A SILENCE of PEAK 0 is 0 at once: no steps in OUT, none in y, so the BOUND alone tells how it goes on.
     */
    private static void joinBounds() {
        Edge.of(34, "BOUND, 1 .. 32767: what it was.");
        for (int bound : new int[] {1, 2, 3, 15, 16, 17, 32767}) {
            for (int turned = 0; turned < 2; turned++) {
                VoiceHouse x = held(turned);
                int last = x.out(0, 159);
                Check.isTrue("it is some way off 0", turned == 0 ? last >= 3 : last <= -3);
                for (int n = 0; n < 160; n += 13) {
                    Edge.due(x, last, "out", 0, n);
                }
                x.join(0, bound);
                Frames.sealed(x, 0, 4, Frames.silence(0, 0));
                x.decode(0);
                for (int n = 0; n < 20; n++) {
                    last = last > 0 ? Math.max(0, last - bound) : Math.min(0, last + bound);
                    Edge.due(x, last, "out", 0, n);
                }
            }
        }
    }

    private static VoiceHouse held(int turned) {
        VoiceHouse x = Scene.coder(0);
        Frames.sealed(x, 0, 0, Frames.with(Frames.voice(turned, 20 + turned), 6, 1));
        x.decode(0);
        for (int next = 1; next <= 3; next++) {
            int ahead = Frames.sealed(x, 0, next + 1, Frames.mending(0, 0));
            x.decode(0);
            Edge.due(x, 3, "repair", 0);
            x.drop(0, ahead);
        }
        return x;
    }

    private static void drift() {
        Edge.of(35, "DRIFT is due, -1, 0 (none), 1: what was. BAD.");
        Edge.noSuchCoder("drift", 0);
        for (int d : new int[] {-2, 2, MIN, MAX}) {
            Edge.bad("drift", 0, d);
        }
        VoiceHouse x = Scene.FULL_HOUSE.get();
        Edge.due(x, 0, "drift", 7, 1);
        Edge.due(x, 1, "drift", 7, 1);
        Edge.due(x, 1, "drift", 7, -1);
        Edge.due(x, -1, "drift", 7, 0);
        Edge.due(x, 0, "drift", 7, 0);
        Edge.due(x, 0, "drift", 0, 0);
    }

    private static void driftIsDueOnce() {
        Edge.of(35, "DRIFT is due, -1, 0 (none), 1: what was.");
        VoiceHouse x = Scene.coder(0);
        for (int d = -1; d <= 1; d += 2) {
            x.drift(0, d);
            // a refused decode() leaves it due
            if (d == -1) {
                Edge.refusedOn(x, Edge.STATE, "decode", 0);
            }
            x.feed(0, 60);
            Edge.due(x, 160 + d, "decode", 0);
            Edge.due(x, 0, "drift", 0, 0);
            Edge.due(x, 160, "decode", 0);
        }
    }
}
