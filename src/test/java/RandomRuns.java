import java.util.Random;

/** All promises: runs of 512 drawn calls, each answer held against the naive model's. */
public final class RandomRuns {
    private static final int[] EDGES = {Integer.MIN_VALUE, -32769, -32768, -33, -2, -1, 0, 1, 2, 9, 65, 160, 250, 321,
        641, 32767, 32768, 65535, 65536, Integer.MAX_VALUE};

    private final Random chance;
    private final VoiceHouse house = new VoiceHouse();
    private final Model model = new Model();
    private final int[] weights = new int[46];
    private final int run;
    private int coders;
    private String call;

    private RandomRuns(int run) {
        this.run = run;
        chance = new Random(1000L + run);
        for (int w = 0; w < weights.length; w++) {
            weights[w] = 1 + chance.nextInt(4);
        }
        boost(run % 6);
    }

    /** Each mood of a run makes other calls frequent. */
    private void boost(int mood) {
        weights[9] = 30;
        weights[10] = 30;
        weights[27] = mood == 5 ? 5 : 30;
        weights[45] = mood == 0 ? 3 : 0;
        if (mood == 1) {
            weights[13] = 30;
        }
        if (mood == 2 || mood == 3) {
            for (int w = 17; w <= 24; w++) {
                weights[w] = 10;
            }
            weights[25] = 20;
            weights[26] = 10;
        }
        if (mood == 4) {
            weights[32] = 10;
            weights[34] = 10;
            weights[33] = 6;
            weights[35] = 6;
            weights[36] = 6;
        }
        if (mood == 5) {
            weights[24] = 150;
        }
    }

    private int upTo(int low, int high) {
        if (chance.nextInt(40) == 0) {
            return EDGES[chance.nextInt(EDGES.length)];
        }
        if (chance.nextInt(20) == 0) {
            return chance.nextBoolean() ? low - 1 : high + 1;
        }
        if (chance.nextInt(10) == 0) {
            return chance.nextBoolean() ? low : high;
        }
        return low + chance.nextInt(high - low + 1);
    }

    private int someCoder() {
        return upTo(0, Math.max(0, coders - 1));
    }

    private int someFrame(int c) {
        Model.Box box = model.box(c);
        return upTo(0, box == null ? 0 : Math.max(0, box.line.size() - 1));
    }

    private int someByte(int c, int i) {
        Model.Framed f = model.framed(c, i);
        return upTo(0, f == null || f.row == null ? 3 : Math.max(0, f.row.at.length - 1));
    }

    private int someLabel(int c) {
        Model.Box box = model.box(c);
        return box == null || chance.nextInt(6) == 0 ? upTo(0, 65535) : (box.next + chance.nextInt(4)) % 65536;
    }

    private void say(String name, Object... args) {
        StringBuilder text = new StringBuilder("run ").append(run).append(": ").append(name).append('(');
        for (int k = 0; k < args.length; k++) {
            text.append(k == 0 ? "" : ", ").append(args[k]);
        }
        call = text.append(')').toString();
    }

    private void same(long got, long want) {
        Check.due(call, got, want);
        Check.due("status() behind " + call, house.status(), model.status());
    }

    private void play() {
        int calls = 1;
        for (int k = run % 3; k >= 0; k--) {
            int rate = chance.nextInt(2);
            say("coder", rate);
            same(house.coder(rate), model.coder(rate));
            calls++;
        }
        while (calls < 512 && Check.wrongs() < 20) {
            coders = model.boxes.size();
            calls++;
            one(drawnCall());
        }
        everything();
    }

    private int drawnCall() {
        int all = 0;
        for (int w : weights) {
            all += w;
        }
        int at = chance.nextInt(all);
        int which = 0;
        while (at >= weights[which]) {
            at -= weights[which];
            which++;
        }
        return which;
    }

    private void one(int which) {
        int c = someCoder();
        if (which < 8) {
            settings(which, c);
        } else if (which < 14) {
            samples(which, c);
        } else if (which < 27) {
            line(which, c);
        } else if (which < 35) {
            decoder(which, c);
        } else {
            rest(which, c);
        }
    }

    private void settings(int which, int c) {
        boolean on = chance.nextBoolean();
        int v = upTo(0, 1), w = upTo(0, 1);
        switch (which) {
            case 0 -> {
                say("coder", v);
                same(house.coder(v), model.coder(v));
            }
            case 1 -> {
                say("rate", c, v);
                same(house.rate(c, v), model.set("rate", c, v, 0, 1));
            }
            case 2 -> {
                say("emphasis", c, on);
                same(house.emphasis(c, on), model.set("emphasis", c, on ? 1 : 0, 0, 1));
            }
            case 3, 4 -> {
                say("search", c, v, w);
                same(house.search(c, v, w), model.search(c, v, w));
            }
            case 5 -> {
                int level = chance.nextInt(3) == 0 ? upTo(0, 32769) : upTo(0, 400);
                say("silence", c, level);
                same(house.silence(c, level), model.set("silence", c, level, 0, 32769));
            }
            case 6 -> {
                say("redundancy", c, on);
                same(house.redundancy(c, on), model.set("redundancy", c, on ? 1 : 0, 0, 1));
            }
            default -> {
                int n = chance.nextBoolean() ? 65534 + chance.nextInt(3) : upTo(0, 65535);
                say("start", c, n);
                same(house.start(c, n), model.start(c, n));
            }
        }
    }

    private void samples(int which, int c) {
        int part = upTo(0, 3);
        switch (which) {
            case 8 -> {
                int v = upTo(-32768, 32767);
                say("sample", c, v);
                same(house.sample(c, v), model.sample(c, v));
            }
            case 9 -> wave(c);
            case 10 -> {
                say("encode", c);
                same(house.encode(c), model.encode(c));
            }
            case 11 -> {
                int what = upTo(0, 6);
                say("pick", c, part, what);
                same(house.pick(c, part, what), model.pick(c, part, what));
            }
            case 12 -> {
                int m = upTo(1, 8);
                say("index", c, m);
                same(house.index(c, m), model.index(c, m));
            }
            default -> {
                int of = upTo(0, 1);
                boolean whole = chance.nextBoolean();
                say("cost", c, part, of, whole);
                same(house.cost(c, part, of, whole), model.cost(c, part, of, whole));
            }
        }
    }

    private void wave(int c) {
        int kind = upTo(0, 4);
        int p = kind == 0 ? upTo(-32768, 32767) : kind == 2 ? upTo(0, 100000) : upTo(2, chance.nextBoolean() ? 640 : 90);
        int q = chance.nextInt(3) == 0 ? upTo(0, chance.nextBoolean() ? 3 : 300) : upTo(0, 32767);
        int n = chance.nextInt(4) == 0 ? upTo(1, 320) : 160;
        say("wave", c, kind, p, q, n);
        same(house.wave(c, kind, p, q, n), model.wave(c, kind, p, q, n));
    }

    private void line(int which, int c) {
        int i = someFrame(c);
        int k = someByte(c, i);
        switch (which) {
            case 14 -> {
                say("length", c, i);
                same(house.length(c, i), model.length(c, i));
            }
            case 15 -> {
                say("byteOf", c, i, k);
                same(house.byteOf(c, i, k), model.byteOf(c, i, k));
            }
            case 16 -> {
                say("label", c, i);
                same(house.label(c, i), model.label(c, i));
            }
            case 17 -> {
                say("lose", c, i);
                same(house.lose(c, i), model.lose(c, i));
            }
            case 18 -> {
                say("cut", c, i, k);
                same(house.cut(c, i, k), model.cut(c, i, k));
                sealSometimes(c, i);
            }
            case 19 -> {
                int at = chance.nextInt(3) == 0 ? chance.nextInt(6) : k;
                int mask = upTo(1, 255);
                say("damage", c, i, at, mask);
                same(house.damage(c, i, at, mask), model.damage(c, i, at, mask));
                sealSometimes(c, i);
            }
            case 20 -> {
                say("resum", c, i);
                same(house.resum(c, i), model.resum(c, i));
            }
            case 21 -> {
                say("shorts", c, i);
                same(house.shorts(c, i), model.shorts(c, i));
            }
            default -> moves(which, c, i);
        }
    }

    /** Without it nearly every damaged frame would end with the same finding. */
    private void sealSometimes(int c, int i) {
        if (chance.nextInt(3) != 0) {
            say("resum", c, i);
            same(house.resum(c, i), model.resum(c, i));
        }
    }

    /** A frame typed by hand: any bytes behind a HEAD that is mostly right, sealed by resum(). */
    private void craft(int c) {
        int sort = chance.nextInt(256);
        int needed = (sort & 1) == 1 ? 28 : 2;
        int body = chance.nextInt(4) == 0 ? Math.max(0, needed - 1 - chance.nextInt(2)) : needed + chance.nextInt(3);
        int spare = chance.nextInt(4) == 0 ? 200 : chance.nextInt(4);
        int rows = 6 + body + (spare > 100 ? 0 : spare) + chance.nextInt(3);
        int[] bytes = {sort, chance.nextInt(256), body, 0, 0, spare};
        for (int k = 0; k < rows; k++) {
            long w = k < 6 ? bytes[k] : chance.nextInt(256);
            say("type", w, 1);
            same(house.type(w, 1), model.type(w, 1));
        }
        int label = someLabel(c);
        say("feed", c, label);
        same(house.feed(c, label), model.feed(c, label));
        if (model.refused == 0) {
            int last = model.box(c).line.size() - 1;
            say("resum", c, last);
            same(house.resum(c, last), model.resum(c, last));
        }
    }

    private void moves(int which, int c, int i) {
        switch (which) {
            case 22 -> {
                int j = someFrame(c);
                say("order", c, i, j);
                same(house.order(c, i, j), model.order(c, i, j));
            }
            case 23 -> {
                say("drop", c, i);
                same(house.drop(c, i), model.drop(c, i));
            }
            case 24 -> {
                say("again", c, i);
                same(house.again(c, i), model.again(c, i));
            }
            case 25 -> {
                if (run % 6 == 3) {
                    craft(c);
                    return;
                }
                int n = upTo(1, 8);
                long w = chance.nextInt(3) == 0 ? 0x0100020000000000L + chance.nextInt() : chance.nextLong();
                say("type", w, n);
                same(house.type(w, n), model.type(w, n));
            }
            default -> {
                int label = someLabel(c);
                say("feed", c, label);
                same(house.feed(c, label), model.feed(c, label));
                if (model.refused == 0) {
                    sealSometimes(c, model.box(c).line.size() - 1);
                }
            }
        }
    }

    private void decoder(int which, int c) {
        switch (which) {
            case 27 -> {
                say("decode", c);
                same(house.decode(c), model.decode(c));
            }
            case 28 -> {
                int k = upTo(0, 160);
                say("out", c, k);
                same(house.out(c, k), model.out(c, k));
            }
            case 29 -> {
                int side = upTo(0, 1), what = upTo(0, 3), k = what == 0 ? upTo(0, 159) : upTo(0, 7);
                say("state", c, side, what, k);
                same(house.state(c, side, what, k), model.state(c, side, what, k));
            }
            case 30 -> {
                say("finding", c);
                same(house.finding(c), model.finding(c));
            }
            case 31 -> {
                say("repair", c);
                same(house.repair(c), model.repair(c));
            }
            case 32 -> {
                int place = upTo(0, 3), kind = upTo(0, 6);
                say("stage", c, place, kind);
                same(house.stage(c, place, kind), model.stage(c, place, kind));
            }
            case 33 -> {
                int bound = chance.nextBoolean() ? upTo(1, 300) : upTo(1, 32767);
                say("join", c, bound);
                same(house.join(c, bound), model.set("join", c, bound, 1, 32767));
            }
            default -> {
                int d = upTo(-1, 1);
                say("drift", c, d);
                same(house.drift(c, d), model.set("drift", c, d, -1, 1));
            }
        }
    }

    private void rest(int which, int c) {
        switch (which) {
            case 35 -> {
                int b = someCoder(), wa = upTo(-32, 32), wb = upTo(-32, 32);
                say("mix", c, b, wa, wb);
                same(house.mix(c, b, wa, wb), model.mix(c, b, wa, wb));
            }
            case 36 -> {
                int up = upTo(1, 4), down = upTo(1, 8);
                say("resample", c, up, down);
                same(house.resample(c, up, down), model.resample(c, up, down));
            }
            case 37 -> {
                int i = upTo(0, Math.max(0, model.bench.length - 1));
                say("work", i);
                same(house.work(i), model.work(i));
            }
            case 38 -> {
                int i = upTo(0, Math.max(0, model.trace.size() - 1));
                say("trace", i);
                same(house.trace(i), model.trace(i));
            }
            case 39 -> {
                int what = upTo(0, 9);
                say("count", c, what);
                same(house.count(c, what), model.count(c, what));
            }
            case 40 -> {
                int kind = upTo(1, 7);
                say("found", kind);
                same(house.found(kind), model.found(kind));
            }
            case 41 -> {
                say("saturations");
                same(house.saturations(), model.saturations());
            }
            case 42 -> {
                int side = upTo(0, 1);
                say("digest", c, side);
                same(house.digest(c, side), model.digest(c, side));
            }
            case 43, 44 -> {
                int what = upTo(0, 3);
                say("told", what);
                same(house.told(what), model.told(what));
            }
            default -> {
                say("clear");
                same(house.clear(), model.clear());
            }
        }
    }

    /** What is left behind a run; the document frees calls behind the 512th, the class does not forget them. */
    private void everything() {
        for (int c = 0; c < model.boxes.size(); c++) {
            for (int what = 0; what <= 9; what++) {
                say("count", c, what);
                same(house.count(c, what), model.count(c, what));
            }
            for (int side = 0; side < 2; side++) {
                say("digest", c, side);
                same(house.digest(c, side), model.digest(c, side));
            }
            for (int k = 0; k <= model.boxes.get(c).out.length; k++) {
                say("out", c, k);
                same(house.out(c, k), model.out(c, k));
            }
            for (int i = 0; i < model.boxes.get(c).line.size(); i++) {
                say("label", c, i);
                same(house.label(c, i), model.label(c, i));
                for (int k = 0; k <= 40; k++) {
                    say("byteOf", c, i, k);
                    same(house.byteOf(c, i, k), model.byteOf(c, i, k));
                }
            }
        }
        for (int kind = 1; kind <= 7; kind++) {
            say("found", kind);
            same(house.found(kind), model.found(kind));
        }
        for (int i = 0; i <= model.trace.size(); i++) {
            say("trace", i);
            same(house.trace(i), model.trace(i));
        }
        for (int i = 0; i <= model.bench.length; i++) {
            say("work", i);
            same(house.work(i), model.work(i));
        }
        say("saturations");
        same(house.saturations(), model.saturations());
    }

    public static void main(String[] args) {
        int runs = args.length > 0 ? Integer.parseInt(args[0]) : 60;
        long[] found = new long[8];
        long saturated = 0, mended = 0;
        for (int run = 0; run < runs; run++) {
            RandomRuns one = new RandomRuns(run);
            one.play();
            for (int kind = 0; kind < 8; kind++) {
                found[kind] += one.model.found[kind];
            }
            saturated += one.model.sat;
            for (Model.Box box : one.model.boxes) {
                mended += box.mended;
            }
        }
        System.out.println("findings " + java.util.Arrays.toString(found) + ", saturations " + saturated + ", mended "
            + mended);
        Check.end();
    }
}
