import java.util.Arrays;

/** Boundary cases of "Terms", part 4 TRACE. */
public final class TraceEdges {
    public static void main(String[] args) {
        emptyAtFirst();
        latestNotRefused();
        ofEncode();
        ofOpening();
        ofFindings();
        ofGaps();
        ofTheFrameAhead();
        ofWays();
        ofFilters();
        ofJoins();
        longest();
        Edge.endTerms(Document.TRACE);
    }

    private static void traced(VoiceHouse x, int... want) {
        String text = "TRACE " + Arrays.toString(want);
        Check.due(text, x.told(2), want.length);
        for (int i = 0; i < want.length; i++) {
            Edge.due(x, want[i], "trace", i);
        }
        Edge.refusedOn(x, Edge.NONE, "trace", want.length);
        Edge.refusedOn(x, Edge.NONE, "trace", -1);
    }

    private static void emptyAtFirst() {
        Edge.of(Document.TRACE, "TRACE is of the latest encode() or decode() that was not refused");
        traced(new VoiceHouse());
        VoiceHouse x = Scene.coder(0);
        Edge.refusedOn(x, Edge.STATE, "encode", 0);
        Edge.refusedOn(x, Edge.STATE, "decode", 0);
        traced(x);
    }

    private static void latestNotRefused() {
        Edge.of(Document.TRACE, "TRACE is of the latest encode() or decode() that was not refused");
        VoiceHouse x = new VoiceHouse();
        x.coder(0);
        x.coder(0);
        x.silence(0, 32769);
        x.wave(0, 0, 5, 0, 160);
        x.encode(0);
        Edge.refusedOn(x, Edge.STATE, "encode", 0);
        Edge.refusedOn(x, Edge.STATE, "encode", 1);
        Edge.refusedOn(x, Edge.STATE, "decode", 1);
        Edge.refusedOn(x, Edge.BAD, "decode", 2);
        traced(x, 1, 2, 14, 15);
        x.feed(1, 5);
        x.decode(1);
        Edge.refusedOn(x, Edge.STATE, "encode", 0);
        traced(x, 37, 42, 60);
        // other calls leave it, cost() too
        x.silence(0, 0);
        x.wave(0, 0, 5, 0, 160);
        x.encode(0);
        x.cost(0, 0, 0, true);
        x.cost(0, 0, 1, true);
        x.mix(1, 1, 1, 1);
        Edge.due(x, 16, "told", 2);
        x.decode(0);
        traced(x, 20, 21, 41);
    }

    private static void ofEncode() {
        Edge.of(Document.TRACE, "of VOICE alone 3 PREDICTION, 4 LATTICE, of each PART 10 or 11 PITCH, 12 or 13 PULSES "
            + "(by their search), 14 EXCITED; 15 the FRAME is made;");
        for (int kinds = 0; kinds < 4; kinds++) {
            VoiceHouse x = Scene.coder(kinds / 2);
            x.search(0, 0, kinds % 2);
            x.search(0, 1, kinds / 2);
            x.wave(0, 3, 50, 9000, 320);
            x.encode(0);
            int pitch = 10 + kinds % 2, pulses = 12 + kinds / 2;
            traced(x, 1, 3, 4, pitch, pulses, 14, pitch, pulses, 14, pitch, pulses, 14, pitch, pulses, 14, 15);
        }
        // a frame of zeros has all stages, too
        VoiceHouse x = Scene.coder(0);
        x.wave(0, 0, 0, 0, 160);
        x.encode(0);
        traced(x, 1, 3, 4, 10, 12, 14, 10, 12, 14, 10, 12, 14, 10, 12, 14, 15);
        Edge.of(Document.TRACE, "of encode() 1 FRAMING; of SILENCE alone 2, then one 14;");
        x.emphasis(0, true);
        x.silence(0, 1);
        x.wave(0, 0, 0, 0, 160);
        x.encode(0);
        traced(x, 1, 2, 14, 15);
    }

    private static void ofOpening() {
        Edge.of(Document.TRACE, "of decode() 20 a frame is OPENED (without a ROW, too), 21 that has ended, in any "
            + "case;");
        VoiceHouse x = Scene.coder(0);
        Frames.sealed(x, 0, 0, Frames.voice(0, 0));
        x.decode(0);
        traced(x, 20, 21, 40);
        x.lose(0, Frames.sealed(x, 0, 1, Frames.voice(0, 0)));
        x.decode(0);
        traced(x, 20, 21, 31, 42, 60);
        x.feed(0, 2);
        x.decode(0);
        traced(x, 20, 21, 33, 42, 60);
    }

    private static void ofFindings() {
        Edge.of(Document.TRACE, "30 plus the FINDING that is told (behind these two; of a GAP it comes first)");
        for (int finding = 1; finding <= 6; finding++) {
            VoiceHouse x = Scene.coder(0);
            int i = Frames.sealed(x, 0, 0, Frames.voice(0, 0));
            Frames.spoil(x, 0, i, finding);
            x.decode(0);
            traced(x, 20, 21, 30 + finding, 42, 60);
        }
    }

    private static void ofGaps() {
        Edge.of(Document.TRACE, "of a GAP it comes first), then 20, 21 of the frame with the LABEL NEXT and 1, if "
            + "there is one;");
        VoiceHouse x = Scene.coder(0);
        x.feed(0, 60000);
        x.decode(0);
        traced(x, 37, 42, 60);
        Frames.sealed(x, 0, 2, Frames.mending(0, 0));
        x.decode(0);
        traced(x, 37, 20, 21, 43, 60);
    }

    private static void ofTheFrameAhead() {
        Edge.of(Document.TRACE, "then 20, 21 of the frame with the LABEL NEXT and 1, if there is one;");
        VoiceHouse x = Scene.coder(0);
        x.feed(0, 0);
        Frames.sealed(x, 0, 1, Frames.mending(0, 0));
        x.decode(0);
        traced(x, 20, 21, 33, 20, 21, 43, 60);
        // one that cannot mend is opened, too: without REDUNDANCY, or with a FINDING, which has no number here
        x.drop(0, 0);
        x.feed(0, 1);
        Frames.sealed(x, 0, 2, Frames.voice(0, 0));
        x.decode(0);
        traced(x, 20, 21, 33, 20, 21, 42, 60);
        x.drop(0, 0);
        x.feed(0, 2);
        x.lose(0, Frames.sealed(x, 0, 3, Frames.voice(0, 0)));
        x.decode(0);
        traced(x, 20, 21, 33, 20, 21, 42, 60);
        // only the first of several is opened, and none where there is no FINDING
        x.feed(0, 4);
        x.feed(0, 4);
        x.decode(0);
        traced(x, 20, 21, 31, 20, 21, 42, 60);
        x.drop(0, 0);
        x.drop(0, 0);
        Frames.sealed(x, 0, 4, Frames.voice(0, 0));
        Frames.sealed(x, 0, 5, Frames.mending(0, 0));
        x.decode(0);
        traced(x, 20, 21, 40, 60);
    }

    private static void ofWays() {
        Edge.of(Document.TRACE, "40 VOICE, 41 SILENCE, 42 REPEATED, 43 MENDED;");
        VoiceHouse x = Scene.coder(0);
        Frames.sealed(x, 0, 0, Frames.voice(0, 0));
        Frames.sealed(x, 0, 1, Frames.silence(1, 0));
        Frames.sealed(x, 0, 3, Frames.mending(0, 0));
        x.decode(0);
        traced(x, 20, 21, 40);
        x.decode(0);
        traced(x, 20, 21, 41);
        x.decode(0);
        traced(x, 37, 20, 21, 43, 60);
        x.decode(0);
        traced(x, 20, 21, 40, 60);
        x.decode(0);
        traced(x, 37, 42, 60);
    }

    private static void ofFilters() {
        Edge.of(Document.TRACE, "50 plus its kind a FILTER (COMB: 53, then 52);");
        for (int place = 0; place < 4; place++) {
            for (int kind = 0; kind <= 4; kind++) {
                VoiceHouse x = Scene.coder(0);
                x.stage(0, place, kind);
                Frames.sealed(x, 0, 0, Frames.silence(0, 9));
                x.decode(0);
                switch (kind) {
                    case 0 -> traced(x, 20, 21, 41);
                    case 3 -> traced(x, 20, 21, 41, 53, 52);
                    default -> traced(x, 20, 21, 41, 50 + kind);
                }
            }
        }
    }

    private static void ofJoins() {
        Edge.of(Document.TRACE, "60 JOINED (only where it is).");
        VoiceHouse x = Scene.coder(0);
        x.stage(0, 3, 2);
        int[][] want = {{20, 21, 40, 52}, {37, 42, 52, 60}, {37, 42, 52, 60}, {20, 21, 40, 52, 60}, {20, 21, 40, 52}};
        for (int label = 0; label < 5; label++) {
            if (label == 0 || label > 2) {
                Frames.sealed(x, 0, label, Frames.voice(0, 20));
            }
            x.drift(0, 1);
            x.decode(0);
            traced(x, want[label]);
        }
    }

    /** The most that a decode() can have: a finding, a frame ahead, four COMBS, JOINED. */
    private static void longest() {
        Edge.of(Document.TRACE, "numbers, one for each stage as it begins");
        VoiceHouse x = Scene.coder(0);
        for (int place = 0; place < 4; place++) {
            x.stage(0, place, 3);
        }
        x.feed(0, 0);
        Frames.sealed(x, 0, 1, Frames.mending(0, 0));
        x.decode(0);
        traced(x, 20, 21, 33, 20, 21, 43, 53, 52, 53, 52, 53, 52, 53, 52, 60);
    }
}
