import java.util.Arrays;

/** Frames typed by hand, for tests. */
final class Frames {
    private Frames() {
    }

    /** These bytes as a frame at the end of coder c's line, its last byte made the SUM; the answer is its place. */
    static int sealed(VoiceHouse x, int c, int label, int... bytes) {
        int i = raw(x, c, label, bytes);
        x.resum(c, i);
        return i;
    }

    static int raw(VoiceHouse x, int c, int label, int... bytes) {
        for (int from = 0; from < bytes.length; from += 8) {
            int n = Math.min(8, bytes.length - from);
            long w = 0;
            for (int k = 0; k < n; k++) {
                w = 256 * w + bytes[from + k];
            }
            x.type(w, n);
        }
        return x.feed(c, label) - 1;
    }

    /** VOICE of rate 0: INDEXES 0, no pitch, gain j of 0, the same two pulse bytes in each part; room for a SUM. */
    static int[] voice(int even, int odd) {
        int[] row = new int[35];
        row[0] = 1;
        row[2] = 28;
        for (int m = 0; m < 8; m++) {
            row[6 + m] = 32;
        }
        for (int k = 0; k < 4; k++) {
            row[14 + 5 * k + 2] = even;
            row[14 + 5 * k + 3] = odd;
        }
        return row;
    }

    /** The same row with other bytes: pairs of a place and what stands there. */
    static int[] with(int[] row, int... pairs) {
        int[] other = row.clone();
        for (int k = 0; k + 1 < pairs.length; k += 2) {
            other[pairs[k]] = pairs[k + 1];
        }
        return other;
    }

    static int[] silence(int rate, int peak) {
        return new int[] {2, rate, 2, 0, 0, 0, peak / 256, peak % 256, 0};
    }

    /** VOICE of rate 0 with two bytes of REDUNDANCY, which tell a lag and p. */
    static int[] mending(int lag, int p) {
        return with(Arrays.copyOf(voice(0, 20), 37), 5, 2, 34, lag, 35, p);
    }

    /** Frame i, which was sealed and is VOICE, gets this FINDING, 1 to 6, when it is opened. */
    static void spoil(VoiceHouse x, int c, int i, int finding) {
        switch (finding) {
            case 1 -> x.lose(c, i);
            case 2 -> x.shorts(c, i);
            case 3 -> x.cut(c, i, 5);
            case 4 -> x.damage(c, i, 34, 1);
            case 5 -> x.damage(c, i, 2, 128);
            default -> x.damage(c, i, 2, 27 ^ 28);
        }
        if (finding > 4) {
            x.resum(c, i);
        }
    }

    /** What the first DRAWS from z tell. */
    static int[] draws(long z, int count) {
        int[] told = new int[count];
        for (int n = 0; n < count; n++) {
            z = (z * 1103515245L + 12345L) % (1L << 31);
            told[n] = (int) (z / 65536 % 256) - 128;
        }
        return told;
    }
}
