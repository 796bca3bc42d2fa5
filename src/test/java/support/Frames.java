/** Frames typed by hand, for tests. */
final class Frames {
    private Frames() {
    }

    /** These bytes as a frame at the end of coder c's line, its last byte made the SUM; the answer is its place. */
    static int sealed(VoiceHouse x, int c, int label, int... bytes) {
        int i = raw(x, c, label, bytes);
        x.resum(c, i);
        return i;
    }

    static int raw(VoiceHouse x, int c, int label, int... bytes) {
        for (int b : bytes) {
            x.type(b, 1);
        }
        return x.feed(c, label) - 1;
    }

    /** VOICE of rate 0: INDEXES 0, no pitch, gain j of 0, the same two pulse bytes in each part; room for a SUM. */
    static int[] voice(int even, int odd) {
        int[] row = new int[35];
        row[0] = 1;
        row[2] = 28;
        for (int m = 0; m < 8; m++) {
            row[6 + m] = 32;
        }
        for (int k = 0; k < 4; k++) {
            row[14 + 5 * k + 2] = even;
            row[14 + 5 * k + 3] = odd;
        }
        return row;
    }

    /** The same row with other bytes: pairs of a place and what stands there. */
    static int[] with(int[] row, int... pairs) {
        int[] other = row.clone();
        for (int k = 0; k + 1 < pairs.length; k += 2) {
            other[pairs[k]] = pairs[k + 1];
        }
        return other;
    }

    static int[] silence(int rate, int peak) {
        return new int[] {2, rate, 2, 0, 0, 0, peak / 256, peak % 256, 0};
    }
}
