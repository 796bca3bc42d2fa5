import java.util.Arrays;

/** A voice box: a coder of speech samples, all in whole numbers, with a decoder beside it. */
public final class VoiceHouse {
    public static final int BAD = -1, STATE = -2, FULL = -3, NONE = -4, WRONG = -5, NO = -2147483648;

    private static final int LOWEST = -32768, HIGHEST = 32767;
    private static final int MOST_CODERS = 8, MOST_WAITING = 640, MOST_FRAMES = 250, MOST_TAPE = 64;
    private static final int NUMBERS = 65536;
    private static final int SHORT_FRAME = 160, LONG_FRAME = 320, PARTS = 4, LONG_PART = 80;
    private static final int PAST = 160, STEPS = 8;
    private static final int LEAST_LAG = 20, GREATEST_LAG = 147, FIRST_LAG = 40;
    private static final int GREATEST_P = 7, GREATEST_J = 51, GREATEST_INDEX = 31;
    private static final int EMPHASIZED = 22282;
    private static final long REFUSED_COST = -9223372036854775808L;

    private static final int HEAD = 6, VOICE_BODY = 28, SILENCE_BODY = 2, PART_BYTES = 5, SPARE_BYTES = 2;
    private static final int VOICE_SORT = 1, SILENCE_SORT = 2, SUM_SEED = 165;

    private static final int LOST = 1, STORE = 2, COPY = 3, SUM = 4, SIZE = 5, INDEX = 6, GAP = 7;
    private static final int VOICE = 0, SILENCE = 1, REPEATED = 2, MENDED = 3;
    private static final int NO_FILTER = 0, NOISE = 1, TILT = 2, COMB = 3, EMPH = 4, LAST_SEARCH = 6;

    private static final int AT_FRAMING = 1, AT_SILENCE = 2, AT_PREDICTION = 3, AT_LATTICE = 4;
    private static final int AT_PITCH = 10, AT_PULSES = 12, AT_EXCITED = 14, AT_FRAME = 15;
    private static final int AT_OPENED = 20, AT_CLOSED = 21, AT_FINDING = 30, AT_DECODED = 40;
    private static final int AT_FILTER = 50, AT_JOINED = 60;

    private static final int[] FADING = {28, 20, 12, 4};
    private static final int[] GAINS = {
        4, 5, 6, 7, 8, 10, 12, 14, 16, 20, 24, 28, 32,
        40, 48, 56, 64, 80, 96, 112, 128, 160, 192, 224, 256, 320,
        384, 448, 512, 640, 768, 896, 1024, 1280, 1536, 1792, 2048, 2560, 3072,
        3584, 4096, 5120, 6144, 7168, 8192, 10240, 12288, 14336, 16384, 20480, 24576, 28672
    };
    // of a pulse, from its place on
    private static final int[] HEIGHTS = {32, 16, -8};

    private final Tally tally = new Tally();
    private final Rows rows = new Rows();
    private final Search seeker = new Search(rows);
    private final Coder[] coders = new Coder[MOST_CODERS];
    private int made;
    private final byte[] tape = new byte[MOST_TAPE];
    private int taped;
    // a drift makes OUT one sample longer, and resample() makes it at most four times as long
    private final int[] bench = new int[4 * (LONG_FRAME + 1)];
    private int benched;
    private int refusal;

    public VoiceHouse() {
    }

    // ---- coders

    public int coder(int rate) {
        refusal = 0;
        if (!isBit(rate)) {
            return refuse(BAD);
        }
        if (made >= MOST_CODERS) {
            return refuse(FULL);
        }
        coders[made] = new Coder(rate, tally, rows, seeker);
        made++;
        return made - 1;
    }

    public int rate(int c, int r) {
        refusal = 0;
        Coder coder = coderAt(c);
        if (coder == null || !isBit(r)) {
            return refuse(BAD);
        }
        int was = coder.encoder.rate;
        coder.encoder.rate = r;
        return was;
    }

    public int emphasis(int c, boolean on) {
        refusal = 0;
        Coder coder = coderAt(c);
        if (coder == null) {
            return refuse(BAD);
        }
        int was = bit(coder.encoder.emphasized);
        coder.encoder.emphasized = on;
        return was;
    }

    public int search(int c, int which, int kind) {
        refusal = 0;
        Coder coder = coderAt(c);
        if (coder == null || !isBit(which) || !isBit(kind)) {
            return refuse(BAD);
        }
        Encoder encoder = coder.encoder;
        int was = which == 0 ? encoder.pitchKind : encoder.pulseKind;
        if (which == 0) {
            encoder.pitchKind = kind;
        } else {
            encoder.pulseKind = kind;
        }
        return was;
    }

    public int silence(int c, int level) {
        refusal = 0;
        Coder coder = coderAt(c);
        if (coder == null || level < 0 || level > 32769) {
            return refuse(BAD);
        }
        int was = coder.encoder.level;
        coder.encoder.level = level;
        return was;
    }

    public int redundancy(int c, boolean on) {
        refusal = 0;
        Coder coder = coderAt(c);
        if (coder == null) {
            return refuse(BAD);
        }
        int was = bit(coder.encoder.redundant);
        coder.encoder.redundant = on;
        return was;
    }

    public int start(int c, int n) {
        refusal = 0;
        Coder coder = coderAt(c);
        if (coder == null || !isLabel(n)) {
            return refuse(BAD);
        }
        if (coder.encoder.encoded > 0 || coder.decoder.decoded > 0 || coder.line.size > 0) {
            return refuse(STATE);
        }
        coder.encoder.number = n;
        coder.decoder.next = n;
        return 1;
    }

    // ---- samples

    public int sample(int c, int v) {
        refusal = 0;
        Coder coder = coderAt(c);
        if (coder == null || !isSample(v)) {
            return refuse(BAD);
        }
        if (coder.waits >= MOST_WAITING) {
            return refuse(FULL);
        }
        coder.addSample(v);
        return coder.waits;
    }

    public int wave(int c, int kind, int p, int q, int n) {
        refusal = 0;
        Coder coder = coderAt(c);
        if (coder == null || n < 1 || n > LONG_FRAME || !isWave(kind, p, q)) {
            return refuse(BAD);
        }
        if (n > MOST_WAITING - coder.waits) {
            return refuse(FULL);
        }
        long z = p;
        for (int i = 0; i < n; i++) {
            // only kind 2 looks at it
            z = drawnFrom(z);
            coder.addSample(kind == 2 ? (drawOf(z) * q) >> 7 : waveAt(kind, p, q, i));
        }
        return coder.waits;
    }

    public int encode(int c) {
        refusal = 0;
        Coder coder = coderAt(c);
        if (coder == null) {
            return refuse(BAD);
        }
        if (coder.waits < frameOf(coder.encoder.rate)) {
            return refuse(STATE);
        }
        if (coder.line.isFull()) {
            return refuse(FULL);
        }
        int number = coder.encoder.number;
        coder.takeWaiting(frameOf(coder.encoder.rate), rows.x);
        coder.line.insert(coder.line.size, new Frame(number, coder.encoder.encodeFrame(), null));
        return number;
    }

    public int pick(int c, int part, int what) {
        refusal = pickRefusal(c, isPart(part) && what >= 0 && what <= 6);
        return refusal != 0 ? refusal : coders[c].encoder.parts[part].choice(what);
    }

    public int index(int c, int m) {
        refusal = pickRefusal(c, m >= 1 && m <= STEPS);
        return refusal != 0 ? NO : coders[c].encoder.copy.index[m - 1];
    }

    public long cost(int c, int part, int which, boolean whole) {
        refusal = pickRefusal(c, isPart(part) && isBit(which));
        if (refusal != 0) {
            return REFUSED_COST;
        }
        Encoder encoder = coders[c].encoder;
        return whole ? encoder.wholeCost(part, which) : encoder.parts[part].costOf(which);
    }

    // ---- the line

    public int length(int c, int i) {
        refusal = 0;
        Frame frame = frameAt(c, i);
        if (frame == null) {
            return refuse(BAD);
        }
        return frame.hasRow() ? frame.size() : refuse(NONE);
    }

    public int byteOf(int c, int i, int k) {
        refusal = 0;
        Frame frame = frameAt(c, i);
        if (frame == null) {
            return refuse(BAD);
        }
        return frame.has(k) ? frame.read(k) : refuse(NONE);
    }

    public int label(int c, int i) {
        refusal = 0;
        Frame frame = frameAt(c, i);
        return frame == null ? refuse(BAD) : frame.label;
    }

    public int lose(int c, int i) {
        refusal = 0;
        Frame frame = frameAt(c, i);
        if (frame == null) {
            return refuse(BAD);
        }
        frame.bytes = null;
        frame.wide = null;
        return 1;
    }

    public int cut(int c, int i, int n) {
        refusal = 0;
        Frame frame = frameAt(c, i);
        if (frame == null) {
            return refuse(BAD);
        }
        if (!frame.hasRow()) {
            return refuse(STATE);
        }
        int had = frame.size();
        if (n < 0 || n > had) {
            return refuse(BAD);
        }
        frame.shorten(n);
        return had;
    }

    public int damage(int c, int i, int k, int mask) {
        refusal = 0;
        Frame frame = frameAt(c, i);
        if (frame == null || mask < 1 || mask > 255) {
            return refuse(BAD);
        }
        if (!frame.hasRow()) {
            return refuse(STATE);
        }
        if (!frame.has(k)) {
            return refuse(NONE);
        }
        frame.flip(k, mask);
        return frame.read(k);
    }

    public int resum(int c, int i) {
        refusal = 0;
        Frame frame = frameAt(c, i);
        if (frame == null) {
            return refuse(BAD);
        }
        byte[] bytes = frame.bytes;
        if (bytes == null || bytes.length == 0) {
            return refuse(STATE);
        }
        bytes[bytes.length - 1] = sumOf(bytes);
        return frame.read(bytes.length - 1);
    }

    public int shorts(int c, int i) {
        refusal = 0;
        Frame frame = frameAt(c, i);
        if (frame == null) {
            return refuse(BAD);
        }
        if (frame.bytes == null) {
            return refuse(STATE);
        }
        frame.widen();
        return 1;
    }

    public int order(int c, int i, int j) {
        refusal = 0;
        if (frameAt(c, i) == null || frameAt(c, j) == null) {
            return refuse(BAD);
        }
        Line line = coders[c].line;
        Frame frame = line.frames[i];
        line.remove(i);
        line.insert(j, frame);
        return 1;
    }

    public int drop(int c, int i) {
        refusal = 0;
        if (frameAt(c, i) == null) {
            return refuse(BAD);
        }
        Line line = coders[c].line;
        line.remove(i);
        return line.size;
    }

    public int again(int c, int i) {
        refusal = 0;
        Frame frame = frameAt(c, i);
        if (frame == null) {
            return refuse(BAD);
        }
        Line line = coders[c].line;
        if (line.isFull()) {
            return refuse(FULL);
        }
        line.insert(line.size, new Frame(frame.label, frame.bytes, frame.wide));
        return line.size;
    }

    public int type(long w, int n) {
        refusal = 0;
        if (n < 1 || n > 8) {
            return refuse(BAD);
        }
        if (n > MOST_TAPE - taped) {
            return refuse(FULL);
        }
        for (int k = n - 1; k >= 0; k--) {
            tape[taped] = (byte) (w >> (8 * k));
            taped++;
        }
        return taped;
    }

    public int feed(int c, int label) {
        refusal = 0;
        Coder coder = coderAt(c);
        if (coder == null || !isLabel(label)) {
            return refuse(BAD);
        }
        Line line = coder.line;
        if (line.isFull()) {
            return refuse(FULL);
        }
        line.insert(line.size, new Frame(label, Arrays.copyOf(tape, taped), null));
        taped = 0;
        return line.size;
    }

    // ---- the decoder

    public int decode(int c) {
        refusal = 0;
        Coder coder = coderAt(c);
        if (coder == null) {
            return refuse(BAD);
        }
        if (coder.line.size == 0 && coder.decoder.next == coder.encoder.number) {
            return refuse(STATE);
        }
        coder.decoder.decodeNext(coder.line);
        return coder.decoder.outs;
    }

    public int out(int c, int k) {
        refusal = 0;
        Coder coder = coderAt(c);
        return coder == null ? unknown() : entry(coder.decoder.out, coder.decoder.outs, k);
    }

    public int state(int c, int side, int what, int k) {
        refusal = 0;
        Memory memory = memoryOf(c, side);
        if (memory == null) {
            return unknown();
        }
        switch (what) {
            case 0:
                return entry(memory.h, PAST, k);
            case 1:
                return entry(memory.v, STEPS, k);
            case 2:
                return entry(memory.index, STEPS, k);
            case 3:
                return k == 0 ? memory.lag : unknown();
            default:
                return unknown();
        }
    }

    public int finding(int c) {
        refusal = 0;
        Coder coder = coderAt(c);
        return coder == null ? refuse(BAD) : coder.decoder.told;
    }

    public int repair(int c) {
        refusal = 0;
        Coder coder = coderAt(c);
        if (coder == null) {
            return refuse(BAD);
        }
        return coder.decoder.decoded == 0 ? refuse(NONE) : coder.decoder.way;
    }

    public int stage(int c, int place, int kind) {
        refusal = 0;
        Coder coder = coderAt(c);
        if (coder == null || place < 0 || place >= Decoder.PLACES || kind < NO_FILTER || kind > LAST_SEARCH) {
            return refuse(BAD);
        }
        if (kind > EMPH) {
            return refuse(WRONG);
        }
        Filter[] path = coder.decoder.path;
        int was = path[place].kind;
        path[place] = new Filter(kind);
        return was;
    }

    public int join(int c, int bound) {
        refusal = 0;
        Coder coder = coderAt(c);
        if (coder == null || bound < 1 || bound > HIGHEST) {
            return refuse(BAD);
        }
        int was = coder.decoder.bound;
        coder.decoder.bound = bound;
        return was;
    }

    public int drift(int c, int d) {
        refusal = 0;
        Coder coder = coderAt(c);
        if (coder == null || d < -1 || d > 1) {
            return refuse(BAD);
        }
        int was = coder.decoder.due;
        coder.decoder.due = d;
        return was;
    }

    // ---- the bench

    public int mix(int a, int b, int wa, int wb) {
        refusal = 0;
        Coder one = coderAt(a);
        Coder other = coderAt(b);
        if (one == null || other == null || !isWeight(wa) || !isWeight(wb)) {
            return refuse(BAD);
        }
        if (one.decoder.decoded == 0 || other.decoder.decoded == 0) {
            return refuse(STATE);
        }
        benched = Math.min(one.decoder.outs, other.decoder.outs);
        for (int n = 0; n < benched; n++) {
            bench[n] = tally.narrow((wa * one.decoder.out[n] + wb * other.decoder.out[n]) >> 5);
        }
        return benched;
    }

    public int resample(int c, int up, int down) {
        refusal = 0;
        Coder coder = coderAt(c);
        if (coder == null || up < 1 || up > 4 || down < 1 || down > 8) {
            return refuse(BAD);
        }
        if (coder.decoder.decoded == 0) {
            return refuse(STATE);
        }
        int[] out = coder.decoder.out;
        int last = coder.decoder.outs - 1;
        benched = coder.decoder.outs * up / down;
        for (int i = 0; i < benched; i++) {
            int k = i * down / up;
            int f = i * down % up;
            bench[i] = (out[Math.min(k, last)] * (up - f) + out[Math.min(k + 1, last)] * f) / up;
        }
        return benched;
    }

    public int work(int i) {
        refusal = 0;
        return entry(bench, benched, i);
    }

    // ---- what is told

    public int trace(int i) {
        refusal = 0;
        return i < 0 || i >= tally.traced ? refuse(NONE) : tally.trace[i];
    }

    public int count(int c, int what) {
        refusal = 0;
        Coder coder = coderAt(c);
        if (coder == null || what < 0 || what > 9) {
            return refuse(BAD);
        }
        switch (what) {
            case 0:
                return coder.waits;
            case 1:
                return coder.line.size;
            case 2:
                return coder.decoder.next;
            case 3:
                return coder.encoder.number;
            case 4:
                return coder.encoder.encoded;
            case 5:
                return coder.decoder.decoded;
            case 6:
                return coder.decoder.late;
            case 7:
                return coder.decoder.repaired;
            case 8:
                return coder.decoder.mended;
            default:
                return rows.leftovers();
        }
    }

    public int found(int kind) {
        refusal = 0;
        return kind < LOST || kind > GAP ? refuse(BAD) : tally.findings[kind];
    }

    public long saturations() {
        refusal = 0;
        return tally.saturated;
    }

    public int digest(int c, int side) {
        refusal = 0;
        Memory memory = memoryOf(c, side);
        if (memory == null) {
            refusal = BAD;
            return 0;
        }
        return memory.digested();
    }

    public int status() {
        return refusal;
    }

    public int told(int what) {
        refusal = 0;
        switch (what) {
            case 0:
                return made;
            case 1:
                return taped;
            case 2:
                return tally.traced;
            case 3:
                return benched;
            default:
                return refuse(BAD);
        }
    }

    public int clear() {
        refusal = 0;
        int were = made;
        for (int c = 0; c < MOST_CODERS; c++) {
            coders[c] = null;
        }
        made = 0;
        taped = 0;
        benched = 0;
        tally.traced = 0;
        return were;
    }

    // ---- refusals and what they look at

    private int refuse(int why) {
        refusal = why;
        return why;
    }

    private int unknown() {
        refusal = BAD;
        return NO;
    }

    private int entry(int[] row, int size, int k) {
        return k < 0 || k >= size ? unknown() : row[k];
    }

    private int pickRefusal(int c, boolean fits) {
        Coder coder = coderAt(c);
        if (coder == null || !fits) {
            return BAD;
        }
        return coder.encoder.spoke ? 0 : STATE;
    }

    private Coder coderAt(int c) {
        return c < 0 || c >= made ? null : coders[c];
    }

    private Frame frameAt(int c, int i) {
        Coder coder = coderAt(c);
        return coder == null || i < 0 || i >= coder.line.size ? null : coder.line.frames[i];
    }

    private Memory memoryOf(int c, int side) {
        Coder coder = coderAt(c);
        if (coder == null || !isBit(side)) {
            return null;
        }
        return side == 0 ? coder.encoder.copy : coder.decoder.memory;
    }

    private static boolean isBit(int v) {
        return v == 0 || v == 1;
    }

    private static int bit(boolean on) {
        return on ? 1 : 0;
    }

    private static boolean isPart(int part) {
        return part >= 0 && part < PARTS;
    }

    private static boolean isLabel(int n) {
        return n >= 0 && n < NUMBERS;
    }

    private static boolean isSample(int v) {
        return v >= LOWEST && v <= HIGHEST;
    }

    private static boolean isWeight(int w) {
        return w >= -32 && w <= 32;
    }

    private static boolean isWave(int kind, int p, int q) {
        if (kind == 0) {
            return isSample(p);
        }
        if (kind < 0 || kind > 4 || q < 0 || q > HIGHEST) {
            return false;
        }
        return kind == 2 ? p >= 0 : p >= 2 && p <= 640;
    }

    private static int waveAt(int kind, int p, int q, int i) {
        if (kind == 0 || p < 1) {
            return p;
        }
        int at = i % p;
        if (kind == 1) {
            return 2 * q * at / p - q;
        }
        if (kind == 3) {
            return 2 * q * Math.abs(2 * at - p) / p - q;
        }
        return at == 0 ? q : 0;
    }

    // ---- numbers

    private static long drawnFrom(long z) {
        return (z * 1103515245L + 12345L) & 0x7fffffffL;
    }

    private static int drawOf(long z) {
        return (int) ((z >> 16) & 255) - 128;
    }

    private static long half(long a, long b) {
        return (a * b + 16384) >> 15;
    }

    private static int frameOf(int rate) {
        return rate == 0 ? SHORT_FRAME : LONG_FRAME;
    }

    private static int partOf(int rate) {
        return frameOf(rate) / PARTS;
    }

    private static int lagOf(int b) {
        return LEAST_LAG + (b & 127);
    }

    private static byte sumOf(byte[] bytes) {
        int sum = SUM_SEED;
        for (int k = 0; k < bytes.length - 1; k++) {
            sum ^= bytes[k];
        }
        return (byte) sum;
    }

    /** The document's BEHIND. */
    private static void lookBehind(int[] h, int lag, int[] a, int sub) {
        int start = PAST - lag;
        int at = 0;
        for (int n = 0; n < sub; n++) {
            a[n] = h[start + at];
            at = at + 1 < lag ? at + 1 : 0;
        }
    }

    /** What all coders of one house count together, and the TRACE. */
    private static final class Tally {
        static final int ROOM = 32;

        final int[] findings = new int[GAP + 1];
        final int[] trace = new int[ROOM];
        int traced;
        long saturated;

        void mark(int stage) {
            if (traced < ROOM) {
                trace[traced] = stage;
                traced++;
            }
        }

        /** The document's S. */
        int narrow(long v) {
            if (v < LOWEST) {
                saturated++;
                return LOWEST;
            }
            if (v > HIGHEST) {
                saturated++;
                return HIGHEST;
            }
            return (int) v;
        }

        /** The document's W. */
        long bounded(long v) {
            long near = Math.max(-2147483648L, Math.min(2147483647L, v));
            saturated += near == v ? 0 : 1;
            return near;
        }

        int nearestIndex(long v) {
            long near = Math.max(-GREATEST_INDEX, Math.min(GREATEST_INDEX, v));
            saturated += near == v ? 0 : 1;
            return (int) near;
        }
    }

    /** The rows in which stages work: one set for the whole house, 0 whenever no stage works. */
    private static final class Rows {
        final int[] x = new int[LONG_FRAME];
        final int[] y = new int[LONG_FRAME + 1];
        final int[] behind = new int[LONG_PART];
        final int[] pulses = new int[LONG_PART];
        final int[] excited = new int[LONG_PART];
        final int[] past = new int[PAST];
        final int[] rests = new int[LONG_PART];
        final int[] left = new int[LONG_PART];
        final int[] hits = new int[LONG_PART];
        final int[] energies = new int[LONG_PART];
        final long[] forward = new long[STEPS + 1];
        final long[] backward = new long[STEPS];

        void wipe() {
            Arrays.fill(x, 0);
            Arrays.fill(y, 0);
            Arrays.fill(behind, 0);
            Arrays.fill(pulses, 0);
            Arrays.fill(excited, 0);
            Arrays.fill(past, 0);
            Arrays.fill(rests, 0);
            Arrays.fill(left, 0);
            Arrays.fill(hits, 0);
            Arrays.fill(energies, 0);
            Arrays.fill(forward, 0L);
            Arrays.fill(backward, 0L);
        }

        int leftovers() {
            return inRow(x) + inRow(y) + inRow(behind) + inRow(pulses) + inRow(excited) + inRow(past)
                + inRow(rests) + inRow(left) + inRow(hits) + inRow(energies)
                + inLongRow(forward) + inLongRow(backward);
        }

        private static int inRow(int[] row) {
            int some = 0;
            for (int number : row) {
                some += number == 0 ? 0 : 1;
            }
            return some;
        }

        private static int inLongRow(long[] row) {
            int some = 0;
            for (long number : row) {
                some += number == 0 ? 0 : 1;
            }
            return some;
        }
    }

    /** The document's STATE, of an encoder's COPY or of a decoder. */
    private static final class Memory {
        final int[] h = new int[PAST];
        final int[] v = new int[STEPS];
        final int[] index = new int[STEPS];
        int lag = FIRST_LAG;
        final Tally tally;
        final Rows rows;

        Memory(Tally tally, Rows rows) {
            this.tally = tally;
            this.rows = rows;
        }

        /** EXCITED by a part's pitch and pulses; from is where its samples go in the frame. */
        void speak(Part part, int sub, int from) {
            lookBehind(h, part.lag, rows.behind, sub);
            part.drawPulses(rows.pulses, sub);
            int gain = GAINS[part.j];
            for (int n = 0; n < sub; n++) {
                int pitched = (5 * part.p * rows.behind[n]) >> 5;
                rows.excited[n] = tally.narrow(pitched + ((gain * rows.pulses[n]) >> 5));
            }
            settle(sub, from);
        }

        /** Excited by its own pitch alone. */
        void echo(int strength, int sub, int from) {
            lookBehind(h, lag, rows.behind, sub);
            for (int n = 0; n < sub; n++) {
                rows.excited[n] = tally.narrow((strength * rows.behind[n]) >> 5);
            }
            settle(sub, from);
        }

        void hush(int seed, int peak, int sub) {
            Arrays.fill(index, 0);
            long z = seed;
            for (int part = 0; part < PARTS; part++) {
                for (int n = 0; n < sub; n++) {
                    z = drawnFrom(z);
                    rows.excited[n] = tally.narrow((drawOf(z) * peak) >> 8);
                }
                settle(sub, part * sub);
            }
        }

        private void settle(int sub, int from) {
            System.arraycopy(h, sub, h, 0, PAST - sub);
            System.arraycopy(rows.excited, 0, h, PAST - sub, sub);
            for (int n = 0; n < sub; n++) {
                rows.y[from + n] = synthesized(rows.excited[n]);
            }
        }

        private int synthesized(int e) {
            int f = e;
            for (int m = STEPS; m >= 1; m--) {
                int k = 1024 * index[m - 1];
                int was = v[m - 1];
                f = tally.narrow(f - half(was, k));
                int b = tally.narrow(was + half(f, k));
                if (m < STEPS) {
                    v[m] = b;
                }
            }
            v[0] = f;
            return f;
        }

        int digested() {
            int d = digestRow(7, h);
            d = digestRow(d, v);
            d = digestRow(d, index);
            return 31 * d + lag;
        }

        private static int digestRow(int before, int[] row) {
            int d = before;
            for (int number : row) {
                d = 31 * d + number;
            }
            return d;
        }
    }

    /** What was chosen for a PART, and what it cost. */
    private static final class Part {
        int lag = LEAST_LAG;
        int p;
        int even;
        int evenSign;
        int odd = 1;
        int oddSign;
        int j;
        long pitchCost;
        long pulseCost;

        int choice(int what) {
            switch (what) {
                case 0:
                    return lag;
                case 1:
                    return p;
                case 2:
                    return even;
                case 3:
                    return evenSign;
                case 4:
                    return odd;
                case 5:
                    return oddSign;
                default:
                    return j;
            }
        }

        long costOf(int which) {
            return which == 0 ? pitchCost : pulseCost;
        }

        void drawPulses(int[] row, int sub) {
            Arrays.fill(row, 0);
            addPulse(row, sub, even, evenSign);
            addPulse(row, sub, odd, oddSign);
        }

        private static void addPulse(int[] row, int sub, int place, int sign) {
            for (int k = 0; k < HEIGHTS.length && place + k < sub; k++) {
                row[place + k] += sign == 0 ? HEIGHTS[k] : -HEIGHTS[k];
            }
        }

        void write(byte[] row, int at) {
            row[at] = (byte) (lag - LEAST_LAG);
            row[at + 1] = (byte) p;
            row[at + 2] = (byte) (even + evenSign);
            row[at + 3] = (byte) (odd - 1 + oddSign);
            row[at + 4] = (byte) j;
        }

        void readFrom(Frame frame, int at, int sub) {
            lag = lagOf(frame.at(at));
            p = frame.at(at + 1) & GREATEST_P;
            even = placeOf(frame.at(at + 2), sub);
            evenSign = frame.at(at + 2) & 1;
            odd = placeOf(frame.at(at + 3), sub) + 1;
            oddSign = frame.at(at + 3) & 1;
            j = Math.min(frame.at(at + 4) & 63, GREATEST_J);
        }

        private static int placeOf(int b, int sub) {
            int places = sub / 2;
            return places < 1 ? 0 : 2 * ((b / 2) % places);
        }
    }

    /** The searches for PITCH and PULSES of one PART. */
    private static final class Search {
        // far above every cost, and small enough to be multiplied by an energy
        static final long DEAREST = 1L << 50;

        final Rows rows;
        final Part trial = new Part();
        int sub;
        long least;
        int leastJ;

        Search(Rows rows) {
            this.rows = rows;
        }

        void load(int[] rests, int[] history, int from, int size) {
            sub = size;
            System.arraycopy(rests, from, rows.rests, 0, size);
            System.arraycopy(history, from, rows.past, 0, PAST);
        }

        void findPitch(boolean whole, Part part) {
            if (whole) {
                tryLags(LEAST_LAG, GREATEST_LAG, 1, part);
                return;
            }
            tryLags(LEAST_LAG, 144, 4, part);
            int middle = part.lag;
            tryLags(Math.max(LEAST_LAG, middle - 3), Math.min(GREATEST_LAG, middle + 3), 1, part);
        }

        private void tryLags(int first, int last, int step, Part part) {
            part.lag = LEAST_LAG;
            part.p = 0;
            part.pitchCost = 0;
            for (int lag = first; lag <= last; lag += step) {
                tryLag(lag, part);
            }
        }

        private void tryLag(int lag, Part part) {
            lookBehind(rows.past, lag, rows.behind, sub);
            long g = 0;
            long c = 0;
            for (int n = 0; n < sub; n++) {
                long a = rows.behind[n];
                g += a * a;
                c += a * rows.rests[n];
            }
            for (int p = 1; p <= GREATEST_P; p++) {
                long price = 25 * p * p * g - 320 * p * c;
                if (price < part.pitchCost) {
                    part.lag = lag;
                    part.p = p;
                    part.pitchCost = price;
                }
            }
        }

        void findPulses(boolean whole, Part part) {
            weighPlaces(part);
            if (whole) {
                findPair(part);
            } else {
                findEven(part);
                least = DEAREST;
                findOdd(part.even, part.evenSign, part);
            }
            part.pulseCost = least;
            part.j = leastJ;
        }

        private void weighPlaces(Part part) {
            lookBehind(rows.past, part.lag, rows.behind, sub);
            for (int n = 0; n < sub; n++) {
                rows.left[n] = rows.rests[n] - ((5 * part.p * rows.behind[n]) >> 5);
            }
            for (int q = 0; q < sub; q++) {
                int hit = 0;
                for (int k = 0; k < HEIGHTS.length && q + k < sub; k++) {
                    hit += HEIGHTS[k] * rows.left[q + k];
                }
                rows.hits[q] = hit;
                rows.energies[q] = overlap(q, q);
            }
        }

        /** The sum of the products of two pulses' heights, low not above high. */
        private int overlap(int low, int high) {
            int sum = 0;
            int apart = high - low;
            for (int k = 0; apart + k < HEIGHTS.length && high + k < sub; k++) {
                sum += HEIGHTS[apart + k] * HEIGHTS[k];
            }
            return sum;
        }

        private void findEven(Part part) {
            least = DEAREST;
            for (int q = 0; q < sub; q += 2) {
                for (int sign = 0; sign <= 1; sign++) {
                    if (betters(rows.energies[q], turned(rows.hits[q], sign))) {
                        part.even = q;
                        part.evenSign = sign;
                    }
                }
            }
        }

        private void findPair(Part part) {
            least = DEAREST;
            for (int q = 0; q < sub; q += 2) {
                for (int sign = 0; sign <= 1; sign++) {
                    if (findOdd(q, sign, part)) {
                        part.even = q;
                        part.evenSign = sign;
                    }
                }
            }
        }

        /** Whether an odd pulse beside this even one costs less than all that were tried before. */
        private boolean findOdd(int even, int evenSign, Part part) {
            boolean any = false;
            int hit = turned(rows.hits[even], evenSign);
            for (int q = 1; q < sub; q += 2) {
                int common = overlap(Math.min(even, q), Math.max(even, q));
                for (int sign = 0; sign <= 1; sign++) {
                    int energy = rows.energies[even] + rows.energies[q] + 2 * turned(common, sign ^ evenSign);
                    if (betters(energy, hit + turned(rows.hits[q], sign))) {
                        part.odd = q;
                        part.oddSign = sign;
                        any = true;
                    }
                }
            }
            return any;
        }

        private static int turned(int v, int sign) {
            return sign == 0 ? v : -v;
        }

        private boolean betters(long e, long d) {
            // no gain, be it one of ours or not, brings the cost below -1024 d d / e
            long bound = d > 0 ? -1024 * d * d : 0;
            if (bound >= least * e) {
                return false;
            }
            boolean any = false;
            long before = DEAREST;
            for (int j = 0; j <= GREATEST_J; j++) {
                long price = GAINS[j] * (GAINS[j] * e - 64 * d);
                // the cost falls with the gain, then rises, and does not fall again
                if (price >= before) {
                    break;
                }
                before = price;
                if (price < least) {
                    least = price;
                    leastJ = j;
                    any = true;
                }
            }
            return any;
        }
    }

    private static final class Encoder {
        final Tally tally;
        final Rows rows;
        final Search seeker;
        final Memory copy;
        final int[] lattice = new int[STEPS];
        final Part[] parts = {new Part(), new Part(), new Part(), new Part()};
        // cost() searches the latest frame anew: its RESTS, and H before it with its own excitation behind
        final int[] rests = new int[LONG_FRAME];
        final int[] history = new int[PAST + LONG_FRAME];
        int latestRate;
        boolean spoke;
        int rate;
        int pitchKind;
        int pulseKind;
        boolean emphasized;
        boolean redundant;
        int level;
        int number;
        int encoded;
        int lastCame;

        Encoder(int rate, Tally tally, Rows rows, Search seeker) {
            this.rate = rate;
            this.tally = tally;
            this.rows = rows;
            this.seeker = seeker;
            copy = new Memory(tally, rows);
        }

        /** The bytes of the frame that stands in the rows' x. */
        byte[] encodeFrame() {
            tally.traced = 0;
            int size = frameOf(rate);
            int peak = framed(size);
            int spareLag = parts[PARTS - 1].lag - LEAST_LAG;
            int spareP = parts[PARTS - 1].p;
            boolean voice = peak >= level;
            if (voice) {
                predict(size);
                whiten(size);
                encodeParts(size / PARTS);
            } else {
                tally.mark(AT_SILENCE);
                tally.mark(AT_EXCITED);
                copy.hush(number, peak, size / PARTS);
            }
            tally.mark(AT_FRAME);
            byte[] row = headed(voice);
            writeBody(row, voice, peak);
            if (row[5] == SPARE_BYTES) {
                row[row.length - 3] = (byte) spareLag;
                row[row.length - 2] = (byte) spareP;
            }
            row[row.length - 1] = sumOf(row);
            spoke = voice;
            latestRate = rate;
            encoded++;
            number = (number + 1) % NUMBERS;
            rows.wipe();
            return row;
        }

        /** FRAMING; the answer is PEAK. */
        private int framed(int size) {
            tally.mark(AT_FRAMING);
            int[] x = rows.x;
            int last = x[size - 1];
            int peak = 0;
            // backwards, for each sample needs the one before it as it came
            for (int n = size - 1; n >= 0; n--) {
                if (emphasized) {
                    x[n] = tally.narrow(x[n] - half(n > 0 ? x[n - 1] : lastCame, EMPHASIZED));
                }
                peak = Math.max(peak, Math.abs(x[n]));
            }
            lastCame = last;
            return peak;
        }

        private void predict(int size) {
            tally.mark(AT_PREDICTION);
            Arrays.fill(copy.index, 0);
            correlate(size);
            reflect();
        }

        private void whiten(int size) {
            tally.mark(AT_LATTICE);
            for (int n = 0; n < size; n++) {
                rests[n] = restOf(rows.x[n]);
            }
        }

        private void encodeParts(int sub) {
            System.arraycopy(copy.h, 0, history, 0, PAST);
            for (int k = 0; k < PARTS; k++) {
                Part part = parts[k];
                seeker.load(rests, history, k * sub, sub);
                tally.mark(AT_PITCH + pitchKind);
                seeker.findPitch(pitchKind == 1, part);
                tally.mark(AT_PULSES + pulseKind);
                seeker.findPulses(pulseKind == 1, part);
                tally.mark(AT_EXCITED);
                copy.speak(part, sub, k * sub);
                System.arraycopy(rows.excited, 0, history, PAST + k * sub, sub);
            }
            copy.lag = parts[PARTS - 1].lag;
        }

        private void correlate(int size) {
            int[] x = rows.x;
            long[] r = rows.forward;
            for (int k = 0; k <= STEPS; k++) {
                long sum = 0;
                for (int n = k; n < size; n++) {
                    sum += (long) x[n] * x[n - k];
                }
                r[k] = sum;
            }
            int s = 0;
            while (s < 40 && r[0] >> s >= 1L << 30) {
                s++;
            }
            for (int k = 0; k <= STEPS; k++) {
                r[k] >>= s;
            }
        }

        private void reflect() {
            long[] p = rows.forward;
            if (p[0] == 0) {
                return;
            }
            p[0] += (p[0] >> 10) + 1;
            System.arraycopy(p, 1, rows.backward, 1, STEPS - 1);
            for (int m = 1; m <= STEPS; m++) {
                if (p[0] <= 0 || Math.abs(p[1]) >= p[0]) {
                    return;
                }
                long z = -32768 * p[1] / p[0];
                copy.index[m - 1] = tally.nearestIndex((z + 512) >> 10);
                if (m < STEPS) {
                    reflectOnce(STEPS - m, z);
                }
            }
        }

        private void reflectOnce(int last, long z) {
            long[] p = rows.forward;
            long[] k = rows.backward;
            p[0] = tally.bounded(p[0] + half(p[1], z));
            for (int i = 1; i <= last; i++) {
                long u = p[i + 1];
                long v = k[i];
                p[i] = tally.bounded(u + half(v, z));
                k[i] = tally.bounded(v + half(u, z));
            }
        }

        private int restOf(int x) {
            int f = x;
            int b = x;
            for (int m = 0; m < STEPS; m++) {
                int k = 1024 * copy.index[m];
                int t = lattice[m];
                lattice[m] = b;
                int g = tally.narrow(f + half(t, k));
                b = tally.narrow(t + half(f, k));
                f = g;
            }
            return f;
        }

        private byte[] headed(boolean voice) {
            int body = voice ? VOICE_BODY : SILENCE_BODY;
            int spare = redundant && spoke ? SPARE_BYTES : 0;
            byte[] row = new byte[HEAD + body + spare + 1];
            row[0] = (byte) (voice ? VOICE_SORT : SILENCE_SORT);
            row[1] = (byte) rate;
            row[2] = (byte) body;
            row[3] = (byte) (number >> 8);
            row[4] = (byte) number;
            row[5] = (byte) spare;
            return row;
        }

        private void writeBody(byte[] row, boolean voice, int peak) {
            if (!voice) {
                row[HEAD] = (byte) (peak >> 8);
                row[HEAD + 1] = (byte) peak;
                return;
            }
            for (int m = 0; m < STEPS; m++) {
                row[HEAD + m] = (byte) (copy.index[m] + 32);
            }
            for (int k = 0; k < PARTS; k++) {
                parts[k].write(row, HEAD + STEPS + PART_BYTES * k);
            }
        }

        long wholeCost(int k, int which) {
            int sub = partOf(latestRate);
            Part trial = seeker.trial;
            seeker.load(rests, history, k * sub, sub);
            if (which == 0) {
                seeker.findPitch(true, trial);
            } else {
                trial.lag = parts[k].lag;
                trial.p = parts[k].p;
                seeker.findPulses(true, trial);
            }
            rows.wipe();
            return trial.costOf(which);
        }
    }

    private static final class Decoder {
        static final int PLACES = 4;

        final Tally tally;
        final Rows rows;
        final Memory memory;
        final Part part = new Part();
        final Filter[] path = {new Filter(NO_FILTER), new Filter(NO_FILTER), new Filter(NO_FILTER),
            new Filter(NO_FILTER)};
        final int[] out = new int[LONG_FRAME + 1];
        int outs;
        int rate;
        int gain;
        int next;
        int bound = 2000;
        int due;
        int told;
        int way;
        int repairsInARow;
        int decoded;
        int late;
        int repaired;
        int mended;

        Decoder(int rate, Tally tally, Rows rows) {
            this.rate = rate;
            this.tally = tally;
            this.rows = rows;
            memory = new Memory(tally, rows);
        }

        void decodeNext(Line line) {
            tally.traced = 0;
            late += line.removeLate(next);
            Frame frame = line.takeFirst(next);
            told = frame == null ? missed() : openedWith(frame);
            boolean joins = told != 0 || repairsInARow > 0;
            if (told == 0 && frame != null) {
                decodeFrame(frame);
                repairsInARow = 0;
            } else {
                tally.mark(AT_FINDING + told);
                repairFrom(line.first((next + 1) % NUMBERS));
                repairsInARow++;
            }
            int size = frameOf(rate);
            filterAll(size);
            if (joins) {
                tally.mark(AT_JOINED);
                joinOn(size);
            }
            bringOut(size);
            decoded++;
            next = (next + 1) % NUMBERS;
            rows.wipe();
        }

        private int missed() {
            tally.findings[GAP]++;
            return GAP;
        }

        private int openedWith(Frame frame) {
            tally.mark(AT_OPENED);
            int finding = frame.openingFinding();
            if (finding != 0) {
                tally.findings[finding]++;
            }
            tally.mark(AT_CLOSED);
            return finding;
        }

        private void decodeFrame(Frame frame) {
            rate = frame.at(1) & 1;
            way = frame.isVoice() ? VOICE : SILENCE;
            tally.mark(AT_DECODED + way);
            int sub = partOf(rate);
            if (way == SILENCE) {
                memory.hush(next, 256 * frame.at(HEAD) + frame.at(HEAD + 1), sub);
                gain = 0;
                return;
            }
            for (int m = 0; m < STEPS; m++) {
                memory.index[m] = Math.max((frame.at(HEAD + m) & 63) - 32, -GREATEST_INDEX);
            }
            for (int k = 0; k < PARTS; k++) {
                part.readFrom(frame, HEAD + STEPS + PART_BYTES * k, sub);
                memory.speak(part, sub, k * sub);
            }
            memory.lag = part.lag;
            gain = GAINS[part.j];
        }

        private void repairFrom(Frame ahead) {
            int strength = repairsInARow < FADING.length ? FADING[repairsInARow] : 0;
            way = REPEATED;
            if (ahead != null && openedWith(ahead) == 0 && ahead.spareBytes() >= SPARE_BYTES) {
                memory.lag = lagOf(ahead.spare(0));
                strength = 5 * (ahead.spare(1) & GREATEST_P);
                way = MENDED;
                mended++;
            }
            repaired++;
            tally.mark(AT_DECODED + way);
            int sub = partOf(rate);
            for (int k = 0; k < PARTS; k++) {
                memory.echo(strength, sub, k * sub);
            }
        }

        private void filterAll(int size) {
            for (int place = 0; place < PLACES; place++) {
                path[place].pass(rows.y, size, gain, memory.lag, tally);
            }
        }

        private void joinOn(int size) {
            int[] y = rows.y;
            int step = Math.max(bound, Math.max(greatestStep(y, size), greatestStep(out, outs)));
            int before = outs > 0 ? out[outs - 1] : 0;
            for (int n = 0; n < size; n++) {
                y[n] = Math.max(before - step, Math.min(before + step, y[n]));
                before = y[n];
            }
        }

        private static int greatestStep(int[] row, int size) {
            int greatest = 0;
            for (int n = 1; n < size; n++) {
                greatest = Math.max(greatest, Math.abs(row[n] - row[n - 1]));
            }
            return greatest;
        }

        private void bringOut(int size) {
            int[] y = rows.y;
            int middle = size / 2;
            outs = size + due;
            System.arraycopy(y, 0, out, 0, middle);
            if (due == 1) {
                out[middle] = (y[middle - 1] + y[middle]) >> 1;
            }
            int from = due == -1 ? middle + 1 : middle;
            System.arraycopy(y, from, out, from + due, size - from);
            due = 0;
        }
    }

    /** A coder: samples that wait, an encoder, a line, a decoder. */
    private static final class Coder {
        final int[] waiting = new int[MOST_WAITING];
        int waits;
        final Line line = new Line();
        final Encoder encoder;
        final Decoder decoder;

        Coder(int rate, Tally tally, Rows rows, Search seeker) {
            encoder = new Encoder(rate, tally, rows, seeker);
            decoder = new Decoder(rate, tally, rows);
        }

        void addSample(int v) {
            if (waits < MOST_WAITING) {
                waiting[waits] = v;
                waits++;
            }
        }

        void takeWaiting(int size, int[] x) {
            if (size > waits || size > x.length) {
                return;
            }
            System.arraycopy(waiting, 0, x, 0, size);
            waits -= size;
            System.arraycopy(waiting, size, waiting, 0, waits);
        }
    }

    private static final class Line {
        final Frame[] frames = new Frame[MOST_FRAMES];
        int size;

        boolean isFull() {
            return size >= MOST_FRAMES;
        }

        void insert(int i, Frame frame) {
            if (isFull() || i < 0 || i > size) {
                return;
            }
            for (int k = size; k > i; k--) {
                frames[k] = frames[k - 1];
            }
            frames[i] = frame;
            size++;
        }

        void remove(int i) {
            if (i < 0 || i >= size) {
                return;
            }
            size--;
            for (int k = i; k < size; k++) {
                frames[k] = frames[k + 1];
            }
            frames[size] = null;
        }

        int placeOf(int label) {
            for (int i = 0; i < size; i++) {
                if (frames[i].label == label) {
                    return i;
                }
            }
            return -1;
        }

        Frame first(int label) {
            int i = placeOf(label);
            return i < 0 ? null : frames[i];
        }

        Frame takeFirst(int label) {
            int i = placeOf(label);
            if (i < 0) {
                return null;
            }
            Frame frame = frames[i];
            remove(i);
            return frame;
        }

        int removeLate(int next) {
            int late = 0;
            for (int i = size - 1; i >= 0; i--) {
                if (((frames[i].label - next) & 65535) >= 32768) {
                    remove(i);
                    late++;
                }
            }
            return late;
        }
    }

    /** A frame in the line: its ROW are bytes, or wide (shorts), or neither; rows are shared, frames are not. */
    private static final class Frame {
        final int label;
        byte[] bytes;
        short[] wide;

        Frame(int label, byte[] bytes, short[] wide) {
            this.label = label;
            this.bytes = bytes;
            this.wide = wide;
        }

        boolean hasRow() {
            return bytes != null || wide != null;
        }

        int size() {
            if (bytes != null) {
                return bytes.length;
            }
            return wide != null ? wide.length : 0;
        }

        boolean has(int k) {
            return k >= 0 && k < size();
        }

        int read(int k) {
            if (!has(k)) {
                return 0;
            }
            return (bytes != null ? bytes[k] : wide[k]) & 255;
        }

        void flip(int k, int mask) {
            if (!has(k)) {
                return;
            }
            if (bytes != null) {
                bytes[k] = (byte) (bytes[k] ^ mask);
            } else {
                wide[k] = (short) (wide[k] ^ mask);
            }
        }

        void shorten(int n) {
            if (n < 0 || n > size()) {
                return;
            }
            if (bytes != null) {
                bytes = Arrays.copyOf(bytes, n);
            } else if (wide != null) {
                wide = Arrays.copyOf(wide, n);
            }
        }

        void widen() {
            if (bytes == null) {
                return;
            }
            wide = new short[bytes.length];
            for (int k = 0; k < bytes.length; k++) {
                wide[k] = bytes[k];
            }
            bytes = null;
        }

        /** The FINDING of opening it, 0 for none; the tests stand in the order of the document's steps. */
        int openingFinding() {
            if (bytes == null) {
                return wide == null ? LOST : STORE;
            }
            if (bytes.length < HEAD) {
                return COPY;
            }
            if (bytes[bytes.length - 1] != sumOf(bytes)) {
                return SUM;
            }
            int end = HEAD + bytes[2];
            if (end < HEAD) {
                return SIZE;
            }
            if (end > bytes.length) {
                return COPY;
            }
            if (bytes[5] < 0) {
                return SIZE;
            }
            if (end + bytes[5] > bytes.length) {
                return COPY;
            }
            return bytes[2] < (isVoice() ? VOICE_BODY : SILENCE_BODY) ? INDEX : 0;
        }

        /** A byte without sign, of a ROW that was opened without a finding. */
        int at(int k) {
            return bytes == null || k < 0 || k >= bytes.length ? 0 : bytes[k] & 255;
        }

        boolean isVoice() {
            return (at(0) & 1) == 1;
        }

        int spareBytes() {
            return at(5);
        }

        int spare(int k) {
            return at(HEAD + at(2) + k);
        }
    }

    private static final class Filter {
        final int kind;
        // of COMB alone: the latest it gave
        final int[] kept;
        long z = 1;
        int lastCame;
        int lastGiven;

        Filter(int kind) {
            this.kind = kind;
            kept = new int[kind == COMB ? PAST : 0];
        }

        void pass(int[] y, int size, int gain, int lag, Tally tally) {
            if (kind != NO_FILTER) {
                tally.mark(AT_FILTER + kind);
            }
            switch (kind) {
                case NOISE:
                    addNoise(y, size, gain >> 4, tally);
                    break;
                case TILT:
                    tilt(y, size, tally);
                    break;
                case COMB:
                    tally.mark(AT_FILTER + TILT);
                    tilt(y, size, tally);
                    comb(y, size, lag, tally);
                    break;
                case EMPH:
                    emphasize(y, size, tally);
                    break;
                default:
                    break;
            }
        }

        private void addNoise(int[] y, int size, int strength, Tally tally) {
            for (int n = 0; n < size; n++) {
                z = drawnFrom(z);
                y[n] = tally.narrow(y[n] + ((drawOf(z) * strength) >> 8));
            }
        }

        private void tilt(int[] y, int size, Tally tally) {
            for (int n = 0; n < size; n++) {
                int came = y[n];
                y[n] = tally.narrow(came - half(lastCame, 8192));
                lastCame = came;
            }
        }

        private void comb(int[] y, int size, int lag, Tally tally) {
            for (int n = 0; n < size; n++) {
                int back = n < lag ? kept[PAST + n - lag] : y[n - lag];
                y[n] = tally.narrow(y[n] + half(back, 6554));
            }
            // a frame has at least as many samples as are kept
            System.arraycopy(y, size - PAST, kept, 0, PAST);
        }

        private void emphasize(int[] y, int size, Tally tally) {
            for (int n = 0; n < size; n++) {
                lastGiven = tally.narrow(y[n] + half(lastGiven, EMPHASIZED));
                y[n] = lastGiven;
            }
        }
    }
}
