import java.util.Arrays;
import java.util.function.Supplier;

/** Boundary cases of promises 39 to 46: trace, count, found, saturations, digest, status, told, clear. */
public final class ToldEdges {
    private static final int MIN = Integer.MIN_VALUE, MAX = Integer.MAX_VALUE;

    public static void main(String[] args) {
        trace();
        count();
        countOfWork();
        countOfClearRows();
        found();
        saturations();
        digest();
        digestWraps();
        status();
        statusIsOfTheLatest();
        told();
        clear();
        clearOfAllCoders();
        clearKeepsCounts();
        Edge.endPromises(39, 46);
    }

    private static void trace() {
        Edge.of(39, "Number i of TRACE. NONE.");
        // the busy house's latest was an encode() of SILENCE: 1, 2, 14, 15
        for (int i : new int[] {-1, 4, MIN, MAX}) {
            Edge.refused(Scene.BUSY, Edge.NONE, "trace", i);
        }
        Edge.refused(Scene.NEW, Edge.NONE, "trace", 0);
        Edge.refused(Scene.NEW, Edge.NONE, "trace", -1);
        VoiceHouse x = Scene.BUSY.get();
        int[] want = {1, 2, 14, 15};
        for (int i = 0; i < 4; i++) {
            Edge.due(x, want[i], "trace", i);
        }
        x.clear();
        Edge.refusedOn(x, Edge.NONE, "trace", 0);
    }

    private static void count() {
        Edge.of(40, "BAD.");
        Edge.noSuchCoder("count", 0);
        for (int what : new int[] {-1, 10, MIN, MAX}) {
            Edge.bad("count", 0, what);
        }
        VoiceHouse x = Scene.FULL_HOUSE.get();
        for (int what = 0; what <= 9; what++) {
            Edge.due(x, 0, "count", 7, what);
        }
    }

    private static void countOfWork() {
        Edge.of(40, "0 samples that WAIT, 1 frames in the LINE, 2 NEXT, 3 the next NUMBER, 4 frames encoded, 5 "
            + "decoded, 6 LATE, 7 REPAIRED (MENDED, too), 8 MENDED");
        VoiceHouse x = Scene.BUSY.get();
        int[] want = {7, 4, 65534, 1, 4, 1, 0, 0, 0, 0};
        for (int what = 0; what <= 9; what++) {
            Edge.due(x, want[what], "count", 0, what);
        }
        // 65534 is LATE, 65535 missing and MENDED by 0, 1 missing and REPEATED
        VoiceHouse y = Scene.coder(0);
        y.start(0, 65535);
        Frames.sealed(y, 0, 65534, Frames.voice(0, 20));
        Frames.sealed(y, 0, 0, Frames.mending(0, 0));
        y.feed(0, 9);
        for (int n = 0; n < 3; n++) {
            y.decode(0);
        }
        int[] then = {0, 1, 2, 65535, 0, 3, 1, 2, 1, 0};
        for (int what = 0; what <= 9; what++) {
            Edge.due(y, then[what], "count", 0, what);
        }
        Edge.due(Scene.FULL_WAIT.get(), 640, "count", 0, 0);
        Edge.due(Scene.FULL_LINE.get(), 250, "count", 0, 1);
    }

    /** Behind each sort of frame, encoded and decoded, and behind each FINDING. */
    private static void countOfClearRows() {
        Edge.of(40, "they are made 0 when one of these is over, in any case: so 0). BAD.");
        for (int rate = 0; rate < 2; rate++) {
            VoiceHouse x = Scene.coder(rate);
            Edge.due(x, 0, "count", 0, 9);
            x.search(0, 1, 1);
            x.stage(0, 0, 3);
            for (int frame = 0; frame < 5; frame++) {
                x.silence(0, frame == 2 ? 32769 : 0);
                x.wave(0, 2, 5 + frame, 20000, 160 + 160 * rate);
                x.encode(0);
                Edge.due(x, 0, "count", 0, 9);
            }
            for (int which = 0; which < 2; which++) {
                x.cost(0, 3, which, true);
                Edge.due(x, 0, "count", 0, 9);
                x.cost(0, 3, which, false);
                Edge.due(x, 0, "count", 0, 9);
            }
            Edge.refusedOn(x, Edge.BAD, "cost", 0, 4, 0, true);
            Edge.due(x, 0, "count", 0, 9);
            x.damage(0, 3, 9, 1);
            x.drop(0, 1);
            int[] findings = {0, 7, 0, 4, 0};
            for (int frame = 0; frame < 5; frame++) {
                x.decode(0);
                Edge.due(x, 0, "count", 0, 9);
                Edge.due(x, findings[frame], "finding", 0);
                Check.isTrue("something is heard", x.out(0, 9) != 0 || x.out(0, 100) != 0);
            }
        }
    }

    private static void found() {
        Edge.of(41, "How many FINDINGS of a kind 1 .. 7 there were. BAD.");
        for (int kind : new int[] {0, 8, -1, MIN, MAX}) {
            Edge.bad("found", kind);
        }
        VoiceHouse x = Scene.BUSY.get();
        for (int kind = 1; kind <= 7; kind++) {
            Edge.due(x, 0, "found", kind);
        }
        x.lose(0, 0);
        x.decode(0);
        Edge.due(x, 1, "found", 1);
        // 65535 has shorts, and was looked at for the repair; it is opened again now, and so is 0, which has no ROW
        Edge.due(x, 1, "found", 2);
        x.decode(0);
        Edge.due(x, 2, "found", 2);
        Edge.due(x, 2, "found", 1);
        x.coder(0);
        x.feed(3, 5);
        x.decode(3);
        Edge.due(x, 1, "found", 7);
    }

    private static void saturations() {
        Edge.of(42, "How many SATURATIONS there were.");
        VoiceHouse x = new VoiceHouse();
        Edge.due(x, 0, "saturations");
        x.coder(0);
        x.coder(0);
        for (int c = 0; c < 2; c++) {
            // G(51) is 28672: one and a half of it, where two pulses meet
            Frames.sealed(x, c, 0, Frames.with(Frames.voice(4, 4), 18, 51));
            x.decode(c);
            Edge.due(x, c + 1, "saturations");
        }
        Edge.refusedOn(x, Edge.STATE, "encode", 0);
        Edge.due(x, 2, "saturations");
    }

    private static void digest() {
        Edge.of(43, "0: none such; status() tells BAD.");
        Edge.noSuchCoder("digest", 0);
        for (int side : new int[] {-1, 2, MIN, MAX}) {
            Edge.bad("digest", 0, side);
        }
        VoiceHouse x = Scene.FULL_HOUSE.get();
        // 7 times 31 to the power of 177, and 40: ints that wrap
        int d = 7;
        for (int k = 0; k < 177; k++) {
            d *= 31;
        }
        Edge.due(x, d + 40, "digest", 7, 0);
        Edge.due(x, d + 40, "digest", 7, 1);
    }

    private static void digestWraps() {
        Edge.of(43, "d is 7; for H(0) to H(159), V(0) to V(7), INDEXES 1 to 8, LAG it becomes 31 d and that (ints that "
            + "wrap).");
        for (int side = 0; side < 2; side++) {
            VoiceHouse x = Scene.BUSY.get();
            long exact = 7;
            int[] sizes = {160, 8, 8, 1};
            for (int what = 0; what < 4; what++) {
                for (int k = 0; k < sizes[what]; k++) {
                    exact = Math.floorMod(31 * exact + x.state(0, side, what, k), 1L << 32);
                }
            }
            Edge.due(x, exact >= 1L << 31 ? exact - (1L << 32) : exact, "digest", 0, side);
        }
        VoiceHouse x = Scene.BUSY.get();
        Check.isTrue("the sides are not the same", x.digest(0, 0) != x.digest(0, 1));
    }

    /** status() told, behind a call, twice: it does not count as a call itself. */
    private static void told(Supplier<VoiceHouse> scene, int why, String name, Object... args) {
        VoiceHouse x = scene.get();
        Edge.refusedOn(x, why, name, args);
        Check.due("status() once more", x.status(), why);
        Edge.due(x, x.told(0), "told", 0);
        Edge.due(x, 0, "status");
    }

    private static void status() {
        Edge.of(44, "(trace(), byteOf(), length(), repair(): NONE is such, too.)");
        told(Scene.BUSY, Edge.NONE, "trace", 4);
        told(Scene.BUSY, Edge.NONE, "byteOf", 0, 0, 37);
        told(Scene.BUSY, Edge.NONE, "length", 0, 2);
        told(Scene.BUSY, Edge.NONE, "repair", 2);
        told(Scene.BUSY, Edge.NONE, "damage", 0, 0, 37, 1);
        Edge.of(44, "What the latest call but status() was refused for; 0, if it was not.");
        told(Scene.BUSY, Edge.BAD, "told", 4);
        told(Scene.BUSY, Edge.BAD, "out", 0, 160);
        told(Scene.BUSY, Edge.BAD, "state", 0, 2, 0, 0);
        told(Scene.BUSY, Edge.BAD, "work", 160);
        told(Scene.BUSY, Edge.BAD, "digest", 0, 2);
        told(Scene.BUSY, Edge.STATE, "index", 1, 1);
        told(Scene.BUSY, Edge.STATE, "cost", 1, 0, 0, true);
        told(Scene.BUSY, Edge.WRONG, "stage", 0, 0, 5);
        told(Scene.FULL_HOUSE, Edge.FULL, "coder", 0);
        told(Scene.FULL_LINE, Edge.FULL, "feed", 0, 0);
    }

    /** Each call, not refused, behind one that was: 0. */
    private static void statusIsOfTheLatest() {
        Edge.of(44, "What the latest call but status() was refused for; 0, if it was not.");
        VoiceHouse x = Scene.BUSY.get();
        Edge.due(new VoiceHouse(), 0, "status");
        Object[][] calls = {{"rate", 0, 0}, {"emphasis", 0, true}, {"search", 0, 0, 1}, {"silence", 0, 30},
            {"redundancy", 0, true}, {"start", 2, 0}, {"sample", 0, 0}, {"wave", 0, 0, 0, 0, 160}, {"encode", 0},
            {"pick", 0, 0, 0}, {"index", 0, 1}, {"cost", 0, 0, 0, true}, {"length", 0, 0}, {"byteOf", 0, 0, 0},
            {"label", 0, 0}, {"lose", 0, 2}, {"cut", 0, 0, 37}, {"damage", 0, 0, 0, 1}, {"resum", 0, 0},
            {"shorts", 0, 0}, {"order", 0, 0, 1}, {"drop", 0, 0}, {"again", 0, 0}, {"type", 1, 1}, {"feed", 0, 0},
            {"decode", 0}, {"out", 0, 0}, {"state", 0, 0, 0, 0}, {"finding", 0}, {"repair", 0}, {"stage", 0, 0, 0},
            {"join", 0, 1}, {"drift", 0, 0}, {"mix", 0, 0, 1, 1}, {"resample", 0, 1, 1}, {"work", 0}, {"trace", 0},
            {"count", 0, 0}, {"found", 1}, {"saturations"}, {"digest", 0, 0}, {"told", 0}, {"coder", 0}, {"clear"}};
        for (Object[] one : calls) {
            Edge.refusedOn(x, Edge.BAD, "told", -1);
            Edge.call(x, (String) one[0], Arrays.copyOfRange(one, 1, one.length));
            Check.due("status() behind " + one[0], x.status(), 0);
        }
    }

    private static void told() {
        Edge.of(45, "0 coders, 1 bytes on the tape, 2 numbers of TRACE, 3 samples on THE BENCH. BAD.");
        for (int what : new int[] {-1, 4, MIN, MAX}) {
            Edge.bad("told", what);
            Edge.refused(Scene.NEW, Edge.BAD, "told", what);
        }
        int[] want = {3, 3, 4, 160};
        for (int what = 0; what <= 3; what++) {
            Edge.due(Scene.BUSY.get(), want[what], "told", what);
            Edge.due(new VoiceHouse(), 0, "told", what);
        }
        Edge.due(Scene.FULL_HOUSE.get(), 8, "told", 0);
        Edge.due(Scene.FULL_TAPE.get(), 64, "told", 1);
    }

    private static void clear() {
        Edge.of(46, "No coders, an empty tape, BENCH and TRACE; counts of FINDINGS and SATURATIONS stay: how many "
            + "coders there were.");
        VoiceHouse x = new VoiceHouse();
        Edge.due(x, 0, "clear");
        Edge.due(x, 0, "clear");
        VoiceHouse y = Scene.BUSY.get();
        Edge.due(y, 3, "clear");
        for (int what = 0; what <= 3; what++) {
            Edge.due(y, 0, "told", what);
        }
        Edge.refusedOn(y, Edge.BAD, "count", 0, 0);
        Edge.refusedOn(y, Edge.BAD, "work", 0);
        Edge.refusedOn(y, Edge.NONE, "trace", 0);
        Edge.due(y, 0, "clear");
        // a new coder has nothing of the one that had its number
        Edge.due(y, 0, "coder", 0);
        VoiceHouse z = Scene.coder(0);
        Check.isTrue("as in a new house", Whole.of(y).equals(Whole.of(z)));
    }

    private static void clearOfAllCoders() {
        Edge.of(46, "how many coders there were.");
        VoiceHouse x = Scene.FULL_HOUSE.get();
        Edge.due(x, 8, "clear");
        for (int c = 0; c < 8; c++) {
            Edge.refusedOn(x, Edge.BAD, "finding", c);
        }
        for (int c = 0; c < 8; c++) {
            Edge.due(x, c, "coder", 1);
        }
        Edge.refusedOn(x, Edge.FULL, "coder", 1);
        Edge.due(Scene.FULL_TAPE.get(), 1, "clear");
        VoiceHouse y = Scene.FULL_TAPE.get();
        y.clear();
        Edge.due(y, 8, "type", 1, 8);
    }

    private static void clearKeepsCounts() {
        Edge.of(46, "counts of FINDINGS and SATURATIONS stay");
        VoiceHouse x = Scene.coder(0);
        Frames.sealed(x, 0, 0, Frames.with(Frames.voice(4, 4), 18, 51));
        x.decode(0);
        for (int finding = 1; finding <= 6; finding++) {
            Frames.spoil(x, 0, Frames.sealed(x, 0, finding, Frames.voice(0, 0)), finding);
            x.decode(0);
            Edge.due(x, finding, "finding", 0);
        }
        x.decode(0);
        x.clear();
        for (int kind = 1; kind <= 7; kind++) {
            Edge.due(x, 1, "found", kind);
        }
        Edge.due(x, 1, "saturations");
    }
}
