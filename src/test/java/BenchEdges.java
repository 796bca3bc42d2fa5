/** Boundary cases of promises 36 to 38: mix, resample, work. */
public final class BenchEdges {
    private static final int MIN = Integer.MIN_VALUE, MAX = Integer.MAX_VALUE;

    public static void main(String[] args) {
        mix();
        mixWeights();
        mixSaturates();
        mixLengths();
        resample();
        resampleLengths();
        resampleBehindTheLast();
        resampleCutsTowardZero();
        work();
        Edge.endPromises(36, 38);
    }

    /** OUT is 16384, 8192, -4096 at places 0, 1, 2 of the first part, and turned at 21, 22, 23. */
    private static VoiceHouse loud() {
        VoiceHouse x = Scene.coder(0);
        Frames.sealed(x, 0, 0, Frames.with(Frames.voice(0, 21), 18, 48));
        x.decode(0);
        return x;
    }

    private static void mix() {
        Edge.of(36, "BAD: weights -32 .. 32; STATE: one has decoded nothing.");
        Edge.noSuchCoder("mix", 0, 1, 1);
        for (int c : new int[] {-1, 3, MIN, MAX}) {
            Edge.bad("mix", 0, c, 1, 1);
        }
        for (int w : new int[] {-33, 33, MIN, MAX}) {
            Edge.bad("mix", 0, 0, w, 1);
            Edge.bad("mix", 0, 0, 1, w);
            Edge.bad("mix", 2, 2, 1, w);
        }
        for (int c = 1; c <= 2; c++) {
            Edge.refused(Scene.BUSY, Edge.STATE, "mix", 0, c, 1, 1);
            Edge.refused(Scene.BUSY, Edge.STATE, "mix", c, 0, 1, 1);
            Edge.refused(Scene.BUSY, Edge.STATE, "mix", c, c, 1, 1);
        }
    }

    private static void mixWeights() {
        Edge.of(36, "THE BENCH is S((wa A(n) + wb B(n)) >> 5) of the OUTS of two coders (perhaps one)");
        VoiceHouse x = loud();
        int[][] weights = {{32, 0, 16384, 8192, -4096}, {-32, 0, -16384, -8192, 4096}, {0, 32, 16384, 8192, -4096},
            {0, -32, -16384, -8192, 4096}, {32, -32, 0, 0, 0}, {0, 0, 0, 0, 0}, {1, 0, 512, 256, -128}};
        for (int[] w : weights) {
            Edge.due(x, 160, "mix", 0, 0, w[0], w[1]);
            for (int n = 0; n < 3; n++) {
                Edge.due(x, w[2 + n], "work", n);
            }
        }
        // the parts behind the first have 4, 2 and -1: a 32nd of it, downwards
        x.mix(0, 0, 1, 0);
        Edge.due(x, 0, "work", 40);
        Edge.due(x, -1, "work", 42);
        x.mix(0, 0, -1, 0);
        Edge.due(x, -1, "work", 40);
        Edge.due(x, 0, "work", 42);
        Edge.due(x, 0, "saturations");
    }

    /** Twice 16384 is one more than a sample, twice -16384 the least sample. */
    private static void mixSaturates() {
        Edge.of(36, "THE BENCH is S((wa A(n) + wb B(n)) >> 5)");
        VoiceHouse x = loud();
        Edge.due(x, 0, "saturations");
        x.mix(0, 0, 32, 32);
        Edge.due(x, 32767, "work", 0);
        Edge.due(x, -32768, "work", 21);
        Edge.due(x, 16384, "work", 1);
        Edge.due(x, 1, "saturations");
        x.mix(0, 0, -32, -32);
        Edge.due(x, -32768, "work", 0);
        Edge.due(x, 32767, "work", 21);
        Edge.due(x, 2, "saturations");
        x.mix(0, 0, 32, 31);
        Edge.due(x, 32256, "work", 0);
        Edge.due(x, 2, "saturations");
    }

    private static void mixLengths() {
        Edge.of(36, "as long as the shorter one: how many.");
        VoiceHouse x = new VoiceHouse();
        int[] sizes = {159, 160, 161, 319, 320, 321};
        for (int c = 0; c < 6; c++) {
            x.coder(c / 3);
            x.drift(c, c % 3 - 1);
            Frames.sealed(x, c, 0, Frames.silence(c / 3, 5000));
            Edge.due(x, sizes[c], "decode", c);
        }
        for (int a = 0; a < 6; a++) {
            for (int b = 0; b < 6; b++) {
                Edge.due(x, sizes[Math.min(a, b)], "mix", a, b, 32, 0);
                Edge.due(x, sizes[Math.min(a, b)], "told", 3);
            }
        }
        x.mix(5, 3, 32, 0);
        Edge.due(x, x.out(5, 318), "work", 318);
        Edge.refusedOn(x, Edge.BAD, "work", 319);
    }

    private static void resample() {
        Edge.of(37, "BAD; STATE: it has decoded nothing.");
        Edge.noSuchCoder("resample", 1, 1);
        for (int v : new int[] {0, -1, MIN, MAX}) {
            Edge.bad("resample", 0, v, 1);
            Edge.bad("resample", 0, 1, v);
        }
        Edge.bad("resample", 0, 5, 1);
        Edge.bad("resample", 0, 1, 9);
        Edge.bad("resample", 2, 5, 1);
        Edge.bad("resample", 2, 1, 9);
        Edge.refused(Scene.BUSY, Edge.STATE, "resample", 1, 1, 1);
        Edge.refused(Scene.BUSY, Edge.STATE, "resample", 2, 4, 8);
    }

    private static void resampleLengths() {
        Edge.of(37, "THE BENCH is OUT, of length l, brought to l up / down samples (up 1 .. 4, down 1 .. 8)");
        for (int rate = 0; rate < 2; rate++) {
            for (int d = -1; d <= 1; d++) {
                VoiceHouse x = Scene.coder(0);
                x.drift(0, d);
                Frames.sealed(x, 0, 0, Frames.silence(rate, 5000));
                int l = x.decode(0);
                for (int up = 1; up <= 4; up++) {
                    for (int down = 1; down <= 8; down++) {
                        Edge.due(x, l * up / down, "resample", 0, up, down);
                    }
                }
                Edge.due(x, l / 8 * 4 + (l % 8) / 2, "resample", 0, 4, 8);
                Edge.due(x, l, "resample", 0, 1, 1);
                Edge.due(x, x.out(0, l - 1), "work", l - 1);
                Edge.refusedOn(x, Edge.BAD, "work", l);
                Edge.due(x, 4 * l, "resample", 0, 4, 1);
                Edge.due(x, x.out(0, l - 1), "work", 4 * l - 1);
                Edge.refusedOn(x, Edge.BAD, "work", 4 * l);
            }
        }
    }

    /** The last sample is 6, the one before it 4: 4, 4.5, 5, 5.5 and then 6 to the end. */
    private static void resampleBehindTheLast() {
        Edge.of(37, "behind the last one that one again: how many.");
        VoiceHouse x = Scene.coder(0);
        Frames.sealed(x, 0, 0, Frames.with(Frames.voice(38, 38), 33, 4));
        x.decode(0);
        Edge.due(x, 12, "out", 0, 159);
        Edge.due(x, 8, "out", 0, 158);
        Edge.due(x, 640, "resample", 0, 4, 1);
        int[] want = {8, 9, 10, 11, 12, 12, 12, 12};
        for (int k = 0; k < 8; k++) {
            Edge.due(x, want[k], "work", 632 + k);
        }
        Edge.due(x, 480, "resample", 0, 3, 1);
        int[] thirds = {8, 9, 10, 12, 12, 12};
        for (int k = 0; k < 6; k++) {
            Edge.due(x, thirds[k], "work", 474 + k);
        }
        // down 5, up 4: the last one is i = 127, k = 158, f = 3
        Edge.due(x, 128, "resample", 0, 4, 5);
        Edge.due(x, (8 + 3 * 12) / 4, "work", 127);
    }

    /** OUT has 4, 2, -1, 0: between -1 and 0 is 0, not -1. */
    private static void resampleCutsTowardZero() {
        Edge.of(37, "sample i is (s(k) (up - f) + s(k + 1) f) / up, k being i down / up, f what is left of that;");
        VoiceHouse x = Scene.coder(0);
        Frames.sealed(x, 0, 0, Frames.voice(0, 21));
        x.decode(0);
        x.resample(0, 2, 1);
        int[] want = {4, 3, 2, 0, -1, 0, 0};
        for (int k = 0; k < want.length; k++) {
            Edge.due(x, want[k], "work", k);
        }
        // turned: 0, -4, -2, 1, 0 from place 20 on
        int[] turned = {0, -2, -4, -3, -2, 0, 1, 0, 0};
        for (int k = 0; k < turned.length; k++) {
            Edge.due(x, turned[k], "work", 40 + k);
        }
        x.resample(0, 1, 8);
        Edge.due(x, 4, "work", 0);
        Edge.due(x, x.out(0, 152), "work", 19);
    }

    private static void work() {
        Edge.of(38, "Sample i of THE BENCH. NO: there is none such; status() tells BAD.");
        for (int i : new int[] {-1, 160, MIN, MAX}) {
            Edge.bad("work", i);
        }
        Edge.refused(Scene.NEW, Edge.BAD, "work", 0);
        Edge.refused(Scene.FULL_HOUSE, Edge.BAD, "work", 0);
        VoiceHouse x = loud();
        Edge.refusedOn(x, Edge.BAD, "work", 0);
        x.resample(0, 1, 8);
        Edge.due(x, 16384, "work", 0);
        Edge.due(x, 0, "work", 19);
        Edge.refusedOn(x, Edge.BAD, "work", 20);
        // a refused call leaves the BENCH, a decode() too; the next one makes it anew
        Edge.refusedOn(x, Edge.BAD, "resample", 0, 5, 1);
        x.feed(0, 90);
        x.decode(0);
        Edge.due(x, 16384, "work", 0);
        Edge.due(x, 20, "told", 3);
        x.mix(0, 0, 0, 0);
        Edge.due(x, 0, "work", 0);
        Edge.due(x, 0, "work", 159);
        x.clear();
        Edge.refusedOn(x, Edge.BAD, "work", 0);
    }
}
