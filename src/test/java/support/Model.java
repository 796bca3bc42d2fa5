import java.util.ArrayList;
import java.util.Arrays;
import java.util.List;

/**
 * The document once more, as naively as it can be written: every cost is summed up from its samples, every row is made
 * anew. RandomRuns holds the class against it.
 */
final class Model {
    static final int BAD = -1, STATE = -2, FULL = -3, NONE = -4, WRONG = -5, NO = Integer.MIN_VALUE;

    static final class Row {
        boolean wide;
        int[] at;

        Row(boolean wide, int[] at) {
            this.wide = wide;
            this.at = at;
        }
    }

    static final class Framed {
        int label;
        Row row;

        Framed(int label, Row row) {
            this.label = label;
            this.row = row;
        }
    }

    static final class Held {
        int[] h = new int[160], v = new int[8], i = new int[9];
        int lag = 40;
    }

    static final class Chosen {
        int lag, p, even, es, odd, os, j;
        long pcost, fcost;
        int[] h, t;
    }

    static final class Sieve {
        int kind;
        long z = 1;
        int came, gave;
        List<Integer> given = new ArrayList<>();
    }

    static final class Box {
        int rate, drate, level, number, next, encoded, decoded, late, repaired, mended;
        boolean emph, red;
        int[] search = new int[2];
        List<Integer> wait = new ArrayList<>();
        List<Framed> line = new ArrayList<>();
        Held copy = new Held(), dec = new Held();
        int[] d = new int[8];
        int before;
        boolean voice;
        Chosen[] parts;
        int[] latest = new int[9];
        int gain, finding, way, run, bound = 2000, drift;
        boolean lastRepaired;
        Sieve[] path = {new Sieve(), new Sieve(), new Sieve(), new Sieve()};
        int[] out = new int[0];
    }

    List<Box> boxes = new ArrayList<>();
    List<Integer> tape = new ArrayList<>();
    List<Integer> trace = new ArrayList<>();
    int[] bench = new int[0];
    int[] found = new int[8];
    long sat;
    int refused;
    long drawZ;

    int no(int why) {
        refused = why;
        return why;
    }

    int none() {
        refused = BAD;
        return NO;
    }

    Box box(int c) {
        return c >= 0 && c < boxes.size() ? boxes.get(c) : null;
    }

    Framed framed(int c, int i) {
        Box b = box(c);
        return b != null && i >= 0 && i < b.line.size() ? b.line.get(i) : null;
    }

    int s(long v) {
        if (v > 32767 || v < -32768) {
            sat++;
        }
        return v > 32767 ? 32767 : v < -32768 ? -32768 : (int) v;
    }

    long w(long v) {
        if (v != (int) v) {
            sat++;
        }
        return v > Integer.MAX_VALUE ? Integer.MAX_VALUE : v < Integer.MIN_VALUE ? Integer.MIN_VALUE : v;
    }

    static long half(long a, long b) {
        return Math.floorDiv(a * b + 16384, 32768L);
    }

    int draw() {
        drawZ = Math.floorMod(drawZ * 1103515245L + 12345L, 1L << 31);
        return (int) (drawZ / 65536 % 256) - 128;
    }

    static int g(int j) {
        return (4 + j % 4) * (int) Math.pow(2, j / 4);
    }

    static int[] behind(int[] h, int lag, int sub) {
        int[] a = new int[sub];
        for (int n = 0; n < sub; n++) {
            a[n] = h[160 - lag + n % lag];
        }
        return a;
    }

    static int[] pulses(int even, int es, int odd, int os, int sub) {
        int[] v = new int[sub + 3];
        int[] shape = {32, 16, -8};
        for (int k = 0; k < 3; k++) {
            if (even >= 0) {
                v[even + k] += es == 0 ? shape[k] : -shape[k];
            }
            if (odd >= 0) {
                v[odd + k] += os == 0 ? shape[k] : -shape[k];
            }
        }
        return Arrays.copyOf(v, sub);
    }

    static long dot(int[] a, int[] b) {
        long sum = 0;
        for (int n = 0; n < a.length; n++) {
            sum += (long) a[n] * b[n];
        }
        return sum;
    }

    // ---- the searches

    static long pcost(int[] t, int[] a, int p) {
        return 25L * p * p * dot(a, a) - 320L * p * dot(t, a);
    }

    static void pitch(Chosen c, int first, int last, int step) {
        c.lag = 20;
        c.p = 0;
        c.pcost = Long.MAX_VALUE;
        for (int lag = first; lag <= last; lag += step) {
            int[] a = behind(c.h, lag, c.t.length);
            for (int p = 0; p <= 7; p++) {
                long cost = pcost(c.t, a, p);
                if (cost < c.pcost) {
                    c.pcost = cost;
                    c.lag = lag;
                    c.p = p;
                }
            }
        }
    }

    static void pitch(Chosen c, int kind) {
        if (kind == 1) {
            pitch(c, 20, 147, 1);
        } else {
            pitch(c, 20, 144, 4);
            int middle = c.lag;
            pitch(c, Math.max(20, middle - 3), Math.min(147, middle + 3), 1);
        }
        if (c.pcost == 0) {
            c.lag = 20;
            c.p = 0;
        }
    }

    static int[] lacking(Chosen c) {
        int[] a = behind(c.h, c.lag, c.t.length);
        int[] u = new int[c.t.length];
        for (int n = 0; n < u.length; n++) {
            u[n] = c.t[n] - Math.floorDiv(5 * c.p * a[n], 32);
        }
        return u;
    }

    /** The least cost of v with all gains, and its j. */
    static long[] leastGain(int[] u, int[] v) {
        long e = dot(v, v), d = dot(u, v);
        long least = Long.MAX_VALUE;
        int best = 0;
        for (int j = 0; j < 52; j++) {
            long cost = (long) g(j) * g(j) * e - 64L * g(j) * d;
            if (cost < least) {
                least = cost;
                best = j;
            }
        }
        return new long[] {least, best};
    }

    static void pulses(Chosen c, int kind) {
        int sub = c.t.length;
        int[] u = lacking(c);
        if (kind == 0) {
            long alone = Long.MAX_VALUE;
            for (int q = 0; q < sub; q += 2) {
                for (int sign = 0; sign < 2; sign++) {
                    long[] one = leastGain(u, pulses(q, sign, -1, 0, sub));
                    if (one[0] < alone) {
                        alone = one[0];
                        c.even = q;
                        c.es = sign;
                    }
                }
            }
        }
        c.fcost = Long.MAX_VALUE;
        int even = c.even, es = c.es;
        for (int q = 0; q < sub; q += 2) {
            for (int sign = 0; sign < 2; sign++) {
                if (kind == 1 || q == even && sign == es) {
                    pulsesBeside(c, u, q, sign);
                }
            }
        }
    }

    static void pulsesBeside(Chosen c, int[] u, int even, int es) {
        for (int odd = 1; odd < u.length; odd += 2) {
            for (int os = 0; os < 2; os++) {
                long[] two = leastGain(u, pulses(even, es, odd, os, u.length));
                if (two[0] < c.fcost) {
                    c.fcost = two[0];
                    c.even = even;
                    c.es = es;
                    c.odd = odd;
                    c.os = os;
                    c.j = (int) two[1];
                }
            }
        }
    }

    // ---- a state

    int[] sounded(Held st, int[] e) {
        int[] y = new int[e.length];
        int[] all = Arrays.copyOf(st.h, 160 + e.length);
        System.arraycopy(e, 0, all, 160, e.length);
        st.h = Arrays.copyOfRange(all, e.length, e.length + 160);
        for (int n = 0; n < e.length; n++) {
            int f = e[n];
            for (int m = 8; m >= 1; m--) {
                f = s(f - half(st.v[m - 1], 1024 * st.i[m]));
                int b = s(st.v[m - 1] + half(f, 1024 * st.i[m]));
                if (m < 8) {
                    st.v[m] = b;
                }
            }
            st.v[0] = f;
            y[n] = f;
        }
        return y;
    }

    int[] excited(Held st, Chosen c, int sub) {
        int[] a = behind(st.h, c.lag, sub);
        int[] v = pulses(c.even, c.es, c.odd, c.os, sub);
        int[] e = new int[sub];
        for (int n = 0; n < sub; n++) {
            e[n] = s(Math.floorDiv(5 * c.p * a[n], 32) + Math.floorDiv(g(c.j) * v[n], 32));
        }
        return e;
    }

    int[] hushed(Held st, int seed, int peak, int size) {
        drawZ = seed;
        st.i = new int[9];
        int[] y = new int[size];
        for (int part = 0; part < 4; part++) {
            int[] e = new int[size / 4];
            for (int n = 0; n < e.length; n++) {
                e[n] = s(Math.floorDiv(draw() * peak, 256));
            }
            System.arraycopy(sounded(st, e), 0, y, part * e.length, e.length);
        }
        return y;
    }

    // ---- encoding

    int[] predicted(int[] x) {
        int[] index = new int[9];
        long[] p = new long[9], k = new long[9];
        for (int i = 0; i <= 8; i++) {
            for (int n = i; n < x.length; n++) {
                p[i] += (long) x[n] * x[n - i];
            }
        }
        while (p[0] >= 1L << 30) {
            // halving again and again is the same as one shift
            for (int i = 0; i <= 8; i++) {
                p[i] = Math.floorDiv(p[i], 2L);
            }
        }
        if (p[0] == 0) {
            return index;
        }
        p[0] += p[0] / 1024 + 1;
        System.arraycopy(p, 1, k, 1, 7);
        for (int m = 1; m <= 8; m++) {
            if (p[0] <= 0 || Math.abs(p[1]) >= p[0]) {
                return index;
            }
            long z = -32768L * p[1] / p[0];
            long raw = Math.floorDiv(z + 512, 1024L);
            index[m] = (int) Math.max(-31, Math.min(31, raw));
            if (raw != index[m]) {
                sat++;
            }
            if (m == 8) {
                return index;
            }
            long[] op = p.clone(), ok = k.clone();
            p[0] = w(op[0] + half(op[1], z));
            for (int i = 1; i <= 8 - m; i++) {
                p[i] = w(op[i + 1] + half(ok[i], z));
                k[i] = w(ok[i] + half(op[i + 1], z));
            }
        }
        return index;
    }

    int[] rested(Box b, int[] x, int[] index) {
        int[] t = new int[x.length];
        for (int n = 0; n < x.length; n++) {
            int f = x[n], back = x[n];
            for (int m = 1; m <= 8; m++) {
                int old = b.d[m - 1];
                b.d[m - 1] = back;
                int g = s(f + half(old, 1024 * index[m]));
                back = s(old + half(f, 1024 * index[m]));
                f = g;
            }
            t[n] = f;
        }
        return t;
    }

    int encode(int c) {
        refused = 0;
        Box b = box(c);
        if (b == null) {
            return no(BAD);
        }
        int size = b.rate == 0 ? 160 : 320;
        if (b.wait.size() < size) {
            return no(STATE);
        }
        if (b.line.size() == 250) {
            return no(FULL);
        }
        trace.clear();
        trace.add(1);
        int[] came = new int[size], x = new int[size];
        for (int n = 0; n < size; n++) {
            came[n] = b.wait.remove(0);
        }
        int peak = 0;
        for (int n = 0; n < size; n++) {
            x[n] = b.emph ? s(came[n] - half(n == 0 ? b.before : came[n - 1], 22282)) : came[n];
            peak = Math.max(peak, Math.abs(x[n]));
        }
        b.before = came[size - 1];
        List<Integer> body = new ArrayList<>();
        List<Integer> spare = new ArrayList<>();
        if (b.red && b.voice) {
            spare.add(b.parts[3].lag - 20);
            spare.add(b.parts[3].p);
        }
        b.voice = peak >= b.level;
        if (b.voice) {
            voice(b, x, body);
        } else {
            trace.add(2);
            trace.add(14);
            hushed(b.copy, b.number, peak, size);
            body.add(peak / 256);
            body.add(peak % 256);
        }
        trace.add(15);
        List<Integer> all = new ArrayList<>(List.of(b.voice ? 1 : 2, b.rate, body.size(), b.number / 256,
            b.number % 256, spare.size()));
        all.addAll(body);
        all.addAll(spare);
        int sum = 165;
        for (int v : all) {
            sum ^= v;
        }
        all.add(sum);
        int[] row = new int[all.size()];
        for (int n = 0; n < row.length; n++) {
            row[n] = (byte) (int) all.get(n);
        }
        b.line.add(new Framed(b.number, new Row(false, row)));
        b.encoded++;
        int number = b.number;
        b.number = (number + 1) % 65536;
        return number;
    }

    void voice(Box b, int[] x, List<Integer> body) {
        trace.add(3);
        int[] index = predicted(x);
        trace.add(4);
        int[] t = rested(b, x, index);
        b.copy.i = index;
        b.latest = index.clone();
        for (int m = 1; m <= 8; m++) {
            body.add(index[m] + 32);
        }
        b.parts = new Chosen[4];
        int sub = x.length / 4;
        for (int k = 0; k < 4; k++) {
            Chosen part = new Chosen();
            b.parts[k] = part;
            part.h = b.copy.h.clone();
            part.t = Arrays.copyOfRange(t, k * sub, k * sub + sub);
            trace.add(10 + b.search[0]);
            pitch(part, b.search[0]);
            trace.add(12 + b.search[1]);
            pulses(part, b.search[1]);
            trace.add(14);
            sounded(b.copy, excited(b.copy, part, sub));
            body.addAll(List.of(part.lag - 20, part.p, part.even + part.es, part.odd - 1 + part.os, part.j));
        }
        b.copy.lag = b.parts[3].lag;
    }

    // ---- decoding

    /** A row as it is opened: a finding, or none and what was read. */
    static final class Open {
        int finding;
        int[] body, spare;
        boolean voice;
        int rate;
    }

    static Open opened(Row row) {
        Open o = new Open();
        if (row == null) {
            o.finding = 1;
            return o;
        }
        if (row.wide) {
            o.finding = 2;
            return o;
        }
        if (row.at.length < 6) {
            o.finding = 3;
            return o;
        }
        int[] head = Arrays.copyOf(row.at, 6);
        int sum = 165;
        for (int n = 0; n < row.at.length - 1; n++) {
            sum ^= row.at[n];
        }
        if ((byte) sum != row.at[row.at.length - 1]) {
            o.finding = 4;
            return o;
        }
        int from = 6;
        for (int which = 0; which < 2; which++) {
            int size = which == 0 ? head[2] : head[5];
            if (size < 0) {
                o.finding = 5;
                return o;
            }
            if (from + size > row.at.length) {
                o.finding = 3;
                return o;
            }
            int[] some = Arrays.copyOfRange(row.at, from, from + size);
            from += size;
            if (which == 0) {
                o.body = some;
            } else {
                o.spare = some;
            }
        }
        o.voice = (head[0] & 1) == 1;
        o.rate = head[1] & 1;
        if (o.body.length < (o.voice ? 28 : 2)) {
            o.finding = 6;
        }
        return o;
    }

    Open open(Framed f) {
        trace.add(20);
        Open o = opened(f.row);
        trace.add(21);
        found[o.finding] += 1;
        return o;
    }

    static Framed labelled(Box b, int label) {
        for (Framed f : b.line) {
            if (f.label == label) {
                return f;
            }
        }
        return null;
    }

    int decode(int c) {
        refused = 0;
        Box b = box(c);
        if (b == null) {
            return no(BAD);
        }
        if (b.line.isEmpty() && b.next == b.number) {
            return no(STATE);
        }
        trace.clear();
        int before = b.line.size();
        b.line.removeIf(f -> Math.floorMod(f.label - b.next, 65536) >= 32768);
        b.late += before - b.line.size();
        Framed f = labelled(b, b.next);
        Open o = null;
        if (f == null) {
            b.finding = 7;
            found[7]++;
        } else {
            b.line.remove(f);
            o = open(f);
            b.finding = o.finding;
        }
        int[] y;
        boolean repaired = b.finding != 0;
        if (repaired) {
            trace.add(30 + b.finding);
            y = repaired(b);
        } else {
            b.run = 0;
            y = o.voice ? voiced(b, o) : silent(b, o);
        }
        for (Sieve sieve : b.path) {
            y = sieved(b, sieve, y);
        }
        if (repaired || b.lastRepaired) {
            trace.add(60);
            y = joined(b, y);
        }
        b.lastRepaired = repaired;
        List<Integer> out = new ArrayList<>();
        for (int n = 0; n < y.length; n++) {
            if (n == y.length / 2 && b.drift == 1) {
                out.add(Math.floorDiv(y[n - 1] + y[n], 2));
            }
            if (n != y.length / 2 || b.drift != -1) {
                out.add(y[n]);
            }
        }
        b.drift = 0;
        b.out = out.stream().mapToInt(v -> v).toArray();
        b.next = (b.next + 1) % 65536;
        b.decoded++;
        return b.out.length;
    }

    int[] voiced(Box b, Open o) {
        trace.add(40);
        b.way = 0;
        b.drate = o.rate;
        int sub = o.rate == 0 ? 40 : 80;
        for (int m = 1; m <= 8; m++) {
            b.dec.i[m] = (o.body[m - 1] & 63) - 32;
            if (b.dec.i[m] == -32) {
                b.dec.i[m] = -31;
            }
        }
        int[] y = new int[4 * sub];
        for (int k = 0; k < 4; k++) {
            Chosen part = new Chosen();
            int[] five = Arrays.copyOfRange(o.body, 8 + 5 * k, 13 + 5 * k);
            part.lag = 20 + (five[0] & 127);
            part.p = five[1] & 7;
            part.even = 2 * (((five[2] & 255) / 2) % (sub / 2));
            part.es = five[2] & 1;
            part.odd = 2 * (((five[3] & 255) / 2) % (sub / 2)) + 1;
            part.os = five[3] & 1;
            part.j = Math.min(51, five[4] & 63);
            System.arraycopy(sounded(b.dec, excited(b.dec, part, sub)), 0, y, k * sub, sub);
            b.dec.lag = part.lag;
            b.gain = g(part.j);
        }
        return y;
    }

    int[] silent(Box b, Open o) {
        trace.add(41);
        b.way = 1;
        b.drate = o.rate;
        b.gain = 0;
        return hushed(b.dec, b.next, (o.body[0] & 255) * 256 + (o.body[1] & 255), o.rate == 0 ? 160 : 320);
    }

    int[] repaired(Box b) {
        Framed ahead = labelled(b, (b.next + 1) % 65536);
        Open o = ahead == null ? null : open(ahead);
        int strength;
        b.repaired++;
        if (o != null && o.finding == 0 && o.spare.length >= 2) {
            b.way = 3;
            b.mended++;
            b.dec.lag = 20 + (o.spare[0] & 127);
            strength = 5 * (o.spare[1] & 7);
        } else {
            b.way = 2;
            strength = Math.max(0, 28 - 8 * b.run);
        }
        trace.add(40 + b.way);
        b.run++;
        int sub = b.drate == 0 ? 40 : 80;
        int[] y = new int[4 * sub];
        for (int k = 0; k < 4; k++) {
            int[] e = behind(b.dec.h, b.dec.lag, sub);
            for (int n = 0; n < sub; n++) {
                e[n] = s(Math.floorDiv(strength * e[n], 32));
            }
            System.arraycopy(sounded(b.dec, e), 0, y, k * sub, sub);
        }
        return y;
    }

    int[] sieved(Box b, Sieve sieve, int[] came) {
        int[] y = came.clone();
        if (sieve.kind == 0) {
            return y;
        }
        trace.add(50 + sieve.kind);
        if (sieve.kind == 1) {
            drawZ = sieve.z;
            for (int n = 0; n < y.length; n++) {
                y[n] = s(y[n] + Math.floorDiv(draw() * (b.gain / 16), 256));
            }
            sieve.z = drawZ;
            return y;
        }
        if (sieve.kind == 4) {
            for (int n = 0; n < y.length; n++) {
                y[n] = s(y[n] + half(n == 0 ? sieve.gave : y[n - 1], 22282));
            }
            sieve.gave = y[y.length - 1];
            return y;
        }
        for (int n = 0; n < y.length; n++) {
            y[n] = s(came[n] - half(n == 0 ? sieve.came : came[n - 1], 8192));
        }
        sieve.came = came[came.length - 1];
        if (sieve.kind == 3) {
            trace.add(52);
            for (int n = 0; n < y.length; n++) {
                int at = sieve.given.size() - b.dec.lag;
                y[n] = s(y[n] + half(at < 0 ? 0 : sieve.given.get(at), 6554));
                sieve.given.add(y[n]);
            }
        }
        return y;
    }

    static int steps(int[] row) {
        int most = 0;
        for (int n = 0; n + 1 < row.length; n++) {
            most = Math.max(most, Math.abs(row[n + 1] - row[n]));
        }
        return most;
    }

    static int[] joined(Box b, int[] y) {
        int most = Math.max(b.bound, Math.max(steps(y), steps(b.out)));
        int at = b.out.length == 0 ? 0 : b.out[b.out.length - 1];
        int[] z = y.clone();
        for (int n = 0; n < y.length; n++) {
            if (z[n] > at + most) {
                z[n] = at + most;
            }
            if (z[n] < at - most) {
                z[n] = at - most;
            }
            at = z[n];
        }
        return z;
    }

    // ---- the rest of the face

    int coder(int rate) {
        refused = 0;
        if (rate != 0 && rate != 1) {
            return no(BAD);
        }
        if (boxes.size() == 8) {
            return no(FULL);
        }
        Box b = new Box();
        b.rate = rate;
        b.drate = rate;
        boxes.add(b);
        return boxes.size() - 1;
    }

    /** rate, emphasis, silence, redundancy, join, drift: one number is set, the old one told. */
    int set(String which, int c, int v, int low, int high) {
        refused = 0;
        Box b = box(c);
        if (b == null || v < low || v > high) {
            return no(BAD);
        }
        int was;
        switch (which) {
            case "rate" -> {
                was = b.rate;
                b.rate = v;
            }
            case "emphasis" -> {
                was = b.emph ? 1 : 0;
                b.emph = v == 1;
            }
            case "silence" -> {
                was = b.level;
                b.level = v;
            }
            case "redundancy" -> {
                was = b.red ? 1 : 0;
                b.red = v == 1;
            }
            case "join" -> {
                was = b.bound;
                b.bound = v;
            }
            default -> {
                was = b.drift;
                b.drift = v;
            }
        }
        return was;
    }

    int search(int c, int which, int kind) {
        refused = 0;
        Box b = box(c);
        if (b == null || which < 0 || which > 1 || kind < 0 || kind > 1) {
            return no(BAD);
        }
        int was = b.search[which];
        b.search[which] = kind;
        return was;
    }

    int start(int c, int n) {
        refused = 0;
        Box b = box(c);
        if (b == null || n < 0 || n > 65535) {
            return no(BAD);
        }
        if (b.encoded + b.decoded + b.line.size() > 0) {
            return no(STATE);
        }
        b.number = n;
        b.next = n;
        return 1;
    }

    int sample(int c, int v) {
        refused = 0;
        Box b = box(c);
        if (b == null || v != (short) v) {
            return no(BAD);
        }
        if (b.wait.size() == 640) {
            return no(FULL);
        }
        b.wait.add(v);
        return b.wait.size();
    }

    int wave(int c, int kind, int p, int q, int n) {
        refused = 0;
        Box b = box(c);
        if (b == null || kind < 0 || kind > 4 || n < 1 || n > 320) {
            return no(BAD);
        }
        boolean badP = kind == 0 ? p != (short) p : kind == 2 ? p < 0 : p < 2 || p > 640;
        if (badP || kind != 0 && (q < 0 || q > 32767)) {
            return no(BAD);
        }
        if (b.wait.size() + n > 640) {
            return no(FULL);
        }
        drawZ = p;
        for (int i = 0; i < n; i++) {
            b.wait.add(switch (kind) {
                case 0 -> p;
                case 1 -> 2 * q * (i % p) / p - q;
                case 2 -> Math.floorDiv(draw() * q, 128);
                case 3 -> 2 * q * Math.abs(2 * (i % p) - p) / p - q;
                default -> i % p == 0 ? q : 0;
            });
        }
        return b.wait.size();
    }

    int picked(int c, boolean fits) {
        Box b = box(c);
        return b == null || !fits ? BAD : b.voice ? 0 : STATE;
    }

    int pick(int c, int part, int what) {
        refused = picked(c, part >= 0 && part < 4 && what >= 0 && what < 7);
        if (refused != 0) {
            return refused;
        }
        Chosen p = box(c).parts[part];
        return new int[] {p.lag, p.p, p.even, p.es, p.odd, p.os, p.j}[what];
    }

    int index(int c, int m) {
        refused = picked(c, m > 0 && m < 9);
        return refused != 0 ? NO : box(c).latest[m];
    }

    long cost(int c, int part, int which, boolean whole) {
        refused = picked(c, part >= 0 && part < 4 && which >= 0 && which < 2);
        if (refused != 0) {
            return Long.MIN_VALUE;
        }
        Chosen p = box(c).parts[part];
        if (!whole) {
            return which == 0 ? p.pcost : p.fcost;
        }
        Chosen other = new Chosen();
        other.h = p.h;
        other.t = p.t;
        other.lag = p.lag;
        other.p = p.p;
        if (which == 0) {
            pitch(other, 1);
            return other.pcost;
        }
        pulses(other, 1);
        return other.fcost;
    }

    int length(int c, int i) {
        refused = 0;
        Framed f = framed(c, i);
        return f == null ? no(BAD) : f.row == null ? no(NONE) : f.row.at.length;
    }

    int byteOf(int c, int i, int k) {
        refused = 0;
        Framed f = framed(c, i);
        if (f == null) {
            return no(BAD);
        }
        return f.row == null || k < 0 || k >= f.row.at.length ? no(NONE) : f.row.at[k] & 255;
    }

    int label(int c, int i) {
        refused = 0;
        Framed f = framed(c, i);
        return f == null ? no(BAD) : f.label;
    }

    int lose(int c, int i) {
        refused = 0;
        Framed f = framed(c, i);
        if (f == null) {
            return no(BAD);
        }
        f.row = null;
        return 1;
    }

    int cut(int c, int i, int n) {
        refused = 0;
        Framed f = framed(c, i);
        if (f == null) {
            return no(BAD);
        }
        if (f.row == null) {
            return no(STATE);
        }
        int had = f.row.at.length;
        if (n < 0 || n > had) {
            return no(BAD);
        }
        f.row = new Row(f.row.wide, Arrays.copyOf(f.row.at, n));
        return had;
    }

    int damage(int c, int i, int k, int mask) {
        refused = 0;
        Framed f = framed(c, i);
        if (f == null || mask < 1 || mask > 255) {
            return no(BAD);
        }
        if (f.row == null) {
            return no(STATE);
        }
        if (k < 0 || k >= f.row.at.length) {
            return no(NONE);
        }
        int v = f.row.at[k] ^ mask;
        f.row.at[k] = f.row.wide ? (short) v : (byte) v;
        return v & 255;
    }

    int resum(int c, int i) {
        refused = 0;
        Framed f = framed(c, i);
        if (f == null) {
            return no(BAD);
        }
        if (f.row == null || f.row.wide || f.row.at.length == 0) {
            return no(STATE);
        }
        int sum = 165;
        for (int n = 0; n < f.row.at.length - 1; n++) {
            sum ^= f.row.at[n];
        }
        f.row.at[f.row.at.length - 1] = (byte) sum;
        return sum & 255;
    }

    int shorts(int c, int i) {
        refused = 0;
        Framed f = framed(c, i);
        if (f == null) {
            return no(BAD);
        }
        if (f.row == null || f.row.wide) {
            return no(STATE);
        }
        f.row = new Row(true, f.row.at.clone());
        return 1;
    }

    int order(int c, int i, int j) {
        refused = 0;
        if (framed(c, i) == null || framed(c, j) == null) {
            return no(BAD);
        }
        List<Framed> line = box(c).line;
        line.add(j, line.remove(i));
        return 1;
    }

    int drop(int c, int i) {
        refused = 0;
        if (framed(c, i) == null) {
            return no(BAD);
        }
        box(c).line.remove(i);
        return box(c).line.size();
    }

    int again(int c, int i) {
        refused = 0;
        Framed f = framed(c, i);
        if (f == null) {
            return no(BAD);
        }
        if (box(c).line.size() == 250) {
            return no(FULL);
        }
        box(c).line.add(new Framed(f.label, f.row));
        return box(c).line.size();
    }

    int type(long w, int n) {
        refused = 0;
        if (n < 1 || n > 8) {
            return no(BAD);
        }
        if (tape.size() + n > 64) {
            return no(FULL);
        }
        for (int k = 8 - n; k < 8; k++) {
            tape.add((int) (byte) (w >> (56 - 8 * k)));
        }
        return tape.size();
    }

    int feed(int c, int label) {
        refused = 0;
        Box b = box(c);
        if (b == null || label < 0 || label > 65535) {
            return no(BAD);
        }
        if (b.line.size() == 250) {
            return no(FULL);
        }
        b.line.add(new Framed(label, new Row(false, tape.stream().mapToInt(v -> v).toArray())));
        tape.clear();
        return b.line.size();
    }

    int out(int c, int k) {
        refused = 0;
        Box b = box(c);
        return b == null || k < 0 || k >= b.out.length ? none() : b.out[k];
    }

    Held held(int c, int side) {
        Box b = box(c);
        return b == null || side < 0 || side > 1 ? null : side == 0 ? b.copy : b.dec;
    }

    int state(int c, int side, int what, int k) {
        refused = 0;
        Held st = held(c, side);
        if (st == null || what < 0 || what > 3 || k < 0 || k >= new int[] {160, 8, 8, 1}[what]) {
            return none();
        }
        return what == 0 ? st.h[k] : what == 1 ? st.v[k] : what == 2 ? st.i[k + 1] : st.lag;
    }

    int finding(int c) {
        refused = 0;
        Box b = box(c);
        return b == null ? no(BAD) : b.finding;
    }

    int repair(int c) {
        refused = 0;
        Box b = box(c);
        return b == null ? no(BAD) : b.decoded == 0 ? no(NONE) : b.way;
    }

    int stage(int c, int place, int kind) {
        refused = 0;
        Box b = box(c);
        if (b == null || place < 0 || place > 3 || kind < 0 || kind > 6) {
            return no(BAD);
        }
        if (kind > 4) {
            return no(WRONG);
        }
        int was = b.path[place].kind;
        b.path[place] = new Sieve();
        b.path[place].kind = kind;
        return was;
    }

    int mix(int a, int b, int wa, int wb) {
        refused = 0;
        Box x = box(a), y = box(b);
        if (x == null || y == null || Math.abs((long) wa) > 32 || Math.abs((long) wb) > 32) {
            return no(BAD);
        }
        if (x.decoded == 0 || y.decoded == 0) {
            return no(STATE);
        }
        bench = new int[Math.min(x.out.length, y.out.length)];
        for (int n = 0; n < bench.length; n++) {
            bench[n] = s(Math.floorDiv(wa * x.out[n] + wb * y.out[n], 32));
        }
        return bench.length;
    }

    int resample(int c, int up, int down) {
        refused = 0;
        Box b = box(c);
        if (b == null || up < 1 || up > 4 || down < 1 || down > 8) {
            return no(BAD);
        }
        if (b.decoded == 0) {
            return no(STATE);
        }
        int l = b.out.length;
        bench = new int[l * up / down];
        for (int i = 0; i < bench.length; i++) {
            int k = i * down / up, f = i * down - k * up;
            int here = b.out[k], there = k + 1 < l ? b.out[k + 1] : b.out[l - 1];
            bench[i] = (here * (up - f) + there * f) / up;
        }
        return bench.length;
    }

    int work(int i) {
        refused = 0;
        return i < 0 || i >= bench.length ? none() : bench[i];
    }

    int trace(int i) {
        refused = 0;
        return i < 0 || i >= trace.size() ? no(NONE) : trace.get(i);
    }

    int count(int c, int what) {
        refused = 0;
        Box b = box(c);
        if (b == null || what < 0 || what > 9) {
            return no(BAD);
        }
        return new int[] {b.wait.size(), b.line.size(), b.next, b.number, b.encoded, b.decoded, b.late, b.repaired,
            b.mended, 0}[what];
    }

    int found(int kind) {
        refused = 0;
        return kind < 1 || kind > 7 ? no(BAD) : found[kind];
    }

    long saturations() {
        refused = 0;
        return sat;
    }

    int digest(int c, int side) {
        refused = 0;
        Held st = held(c, side);
        if (st == null) {
            refused = BAD;
            return 0;
        }
        int d = 7;
        for (int v : st.h) {
            d = 31 * d + v;
        }
        for (int v : st.v) {
            d = 31 * d + v;
        }
        for (int m = 1; m <= 8; m++) {
            d = 31 * d + st.i[m];
        }
        return 31 * d + st.lag;
    }

    int status() {
        return refused;
    }

    int told(int what) {
        refused = 0;
        return switch (what) {
            case 0 -> boxes.size();
            case 1 -> tape.size();
            case 2 -> trace.size();
            case 3 -> bench.length;
            default -> no(BAD);
        };
    }

    int clear() {
        refused = 0;
        int were = boxes.size();
        boxes.clear();
        tape.clear();
        trace.clear();
        bench = new int[0];
        return were;
    }
}
