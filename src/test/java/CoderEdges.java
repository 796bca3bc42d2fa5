import java.util.Arrays;
import java.util.List;

/** Boundary cases of promises 1 to 8: a new object, coder, rate, emphasis, search, silence, redundancy, start. */
public final class CoderEdges {
    private static final int MIN = Integer.MIN_VALUE, MAX = Integer.MAX_VALUE;

    public static void main(String[] args) {
        newObject();
        newObjectHasNoCoders();
        coder();
        coderIsNew();
        rate();
        rateFromNowOn();
        emphasis();
        search();
        silence();
        redundancy();
        start();
        startIsRefused();
        startIsNotRefused();
        Edge.endPromises(1, 8);
    }

    private static void newObject() {
        Edge.of(1, "No coders, an empty tape, an empty bench.");
        VoiceHouse x = new VoiceHouse();
        Edge.due(x, 0, "status");
        for (int what = 0; what <= 3; what++) {
            Edge.due(x, 0, "told", what);
        }
        Edge.due(x, 0, "saturations");
        for (int kind = 1; kind <= 7; kind++) {
            Edge.due(x, 0, "found", kind);
        }
        Edge.refused(Scene.NEW, Edge.BAD, "work", 0);
        Edge.refused(Scene.NEW, Edge.NONE, "trace", 0);
        Edge.due(x, 0, "clear");
        Edge.due(x, 0, "coder", 1);
        Edge.due(x, 1, "feed", 0, 0);
        Edge.due(x, 0, "length", 0, 0);
        VoiceHouse other = new VoiceHouse();
        Edge.due(other, 0, "told", 0);
    }

    private static void newObjectHasNoCoders() {
        Edge.of(1, "No coders, an empty tape, an empty bench.");
        List<Object[]> calls = List.of(new Object[][] {{"rate", 0, 0}, {"emphasis", 0, true}, {"search", 0, 0, 0},
            {"silence", 0, 0}, {"redundancy", 0, true}, {"start", 0, 0}, {"sample", 0, 0}, {"wave", 0, 0, 0, 0, 1},
            {"encode", 0}, {"pick", 0, 0, 0}, {"index", 0, 1}, {"cost", 0, 0, 0, true}, {"length", 0, 0},
            {"byteOf", 0, 0, 0}, {"label", 0, 0}, {"lose", 0, 0}, {"cut", 0, 0, 0}, {"damage", 0, 0, 0, 1},
            {"resum", 0, 0}, {"shorts", 0, 0}, {"order", 0, 0, 0}, {"drop", 0, 0}, {"again", 0, 0}, {"feed", 0, 0},
            {"decode", 0}, {"out", 0, 0}, {"state", 0, 0, 0, 0}, {"finding", 0}, {"repair", 0}, {"stage", 0, 0, 0},
            {"join", 0, 1}, {"drift", 0, 0}, {"mix", 0, 0, 1, 1}, {"resample", 0, 1, 1}, {"count", 0, 0},
            {"digest", 0, 0}});
        for (Object[] one : calls) {
            Edge.refused(Scene.NEW, Edge.BAD, (String) one[0], Arrays.copyOfRange(one, 1, one.length));
        }
    }

    private static void coder() {
        Edge.of(2, "A coder with a RATE (0, 1)");
        for (int rate : new int[] {-1, 2, MIN, MAX}) {
            Edge.refused(Scene.NEW, Edge.BAD, "coder", rate);
            Edge.bad("coder", rate);
        }
        Edge.of(2, "its number. BAD; FULL.");
        VoiceHouse x = new VoiceHouse();
        for (int c = 0; c < 8; c++) {
            Edge.due(x, c, "coder", (c + 1) % 2);
            Edge.due(x, c + 1, "told", 0);
        }
        Edge.refused(Scene.FULL_HOUSE, Edge.FULL, "coder", 0);
        Edge.refused(Scene.FULL_HOUSE, Edge.FULL, "coder", 1);
        Edge.refused(Scene.FULL_HOUSE, Edge.BAD, "coder", 2);
        Edge.due(x, 1, "rate", 0, 0);
        Edge.due(x, 0, "rate", 7, 0);
        Edge.due(x, 8, "clear");
        Edge.due(x, 0, "coder", 0);
    }

    /** Nothing of the coders beside it shows in a new one. */
    private static void coderIsNew() {
        Edge.of(2, "nothing waits; searches NESTED, no EMPHASIS, LEVEL 0, no REDUNDANCY: its number.");
        VoiceHouse x = Scene.BUSY.get();
        Edge.due(x, 3, "coder", 1);
        for (int what = 0; what <= 9; what++) {
            Edge.due(x, 0, "count", 3, what);
        }
        Edge.due(x, 1, "rate", 3, 1);
        Edge.due(x, 0, "emphasis", 3, false);
        Edge.due(x, 0, "search", 3, 0, 0);
        Edge.due(x, 0, "search", 3, 1, 0);
        Edge.due(x, 0, "silence", 3, 0);
        Edge.due(x, 0, "redundancy", 3, false);
        Edge.due(x, 2000, "join", 3, 2000);
        Edge.due(x, 0, "drift", 3, 0);
        for (int place = 0; place < 4; place++) {
            Edge.due(x, 0, "stage", 3, place, 0);
        }
        // the encoder remembers no sample of another: 10000 comes as it is, then 10000 - 6800
        x.silence(3, 32769);
        x.emphasis(3, true);
        x.wave(3, 0, 10000, 0, 320);
        x.encode(3);
        Edge.due(x, 10000 / 256, "byteOf", 3, 0, 6);
        Edge.due(x, 10000 % 256, "byteOf", 3, 0, 7);
    }

    private static void rate() {
        Edge.of(3, "The RATE of what is encoded from now on: what it was. BAD.");
        Edge.noSuchCoder("rate", 0);
        for (int r : new int[] {-1, 2, MIN, MAX}) {
            Edge.bad("rate", 0, r);
        }
        VoiceHouse x = Scene.FULL_HOUSE.get();
        Edge.due(x, 0, "rate", 0, 1);
        Edge.due(x, 1, "rate", 0, 1);
        Edge.due(x, 1, "rate", 0, 0);
        Edge.due(x, 0, "rate", 0, 0);
        Edge.due(x, 1, "rate", 7, 0);
    }

    /** It holds for samples that wait already, not for frames that are made, and not for the decoder. */
    private static void rateFromNowOn() {
        Edge.of(3, "The RATE of what is encoded from now on");
        VoiceHouse x = Scene.coder(0);
        x.wave(0, 0, 5, 0, 319);
        x.encode(0);
        x.wave(0, 0, 5, 0, 160);
        x.rate(0, 1);
        Edge.refusedOn(x, Edge.STATE, "encode", 0);
        x.sample(0, 5);
        Edge.due(x, 1, "encode", 0);
        Edge.due(x, 0, "byteOf", 0, 0, 1);
        Edge.due(x, 1, "byteOf", 0, 1, 1);
        x.lose(0, 0);
        Edge.due(x, 160, "decode", 0);
        Edge.due(x, 320, "decode", 0);
    }

    private static void emphasis() {
        Edge.of(4, "EMPHASIS is on, or not: whether it was (1, 0). BAD.");
        Edge.noSuchCoder("emphasis", true);
        VoiceHouse x = Scene.FULL_HOUSE.get();
        Edge.due(x, 0, "emphasis", 7, false);
        Edge.due(x, 0, "emphasis", 7, true);
        Edge.due(x, 1, "emphasis", 7, true);
        Edge.due(x, 1, "emphasis", 7, false);
        Edge.due(x, 0, "emphasis", 0, false);
    }

    private static void search() {
        Edge.of(5, "PITCH (which = 0), PULSES (1) by search 0, 1: which it was. BAD.");
        Edge.noSuchCoder("search", 0, 1);
        for (int v : new int[] {-1, 2, MIN, MAX}) {
            Edge.bad("search", 0, v, 1);
            Edge.bad("search", 0, 0, v);
            Edge.bad("search", 0, 1, v);
        }
        VoiceHouse x = Scene.FULL_HOUSE.get();
        for (int which = 0; which < 2; which++) {
            Edge.due(x, 0, "search", 7, which, 1);
            Edge.due(x, 1, "search", 7, which, 1);
            Edge.due(x, 1, "search", 7, which, 0);
            Edge.due(x, 0, "search", 7, which, 0);
        }
        x.search(7, 0, 1);
        Edge.due(x, 0, "search", 7, 1, 0);
        Edge.due(x, 1, "search", 7, 0, 0);
    }

    private static void silence() {
        Edge.of(6, "LEVEL, 0 .. 32769: what it was. BAD.");
        Edge.noSuchCoder("silence", 5);
        for (int level : new int[] {-1, 32770, MIN, MAX}) {
            Edge.bad("silence", 0, level);
        }
        VoiceHouse x = Scene.FULL_HOUSE.get();
        Edge.due(x, 0, "silence", 7, 32769);
        Edge.due(x, 32769, "silence", 7, 0);
        Edge.due(x, 0, "silence", 7, 1);
        Edge.due(x, 1, "silence", 7, 32768);
        Edge.due(x, 32768, "silence", 7, 7);
    }

    private static void redundancy() {
        Edge.of(7, "REDUNDANCY is on, or not: whether it was (1, 0). BAD.");
        Edge.noSuchCoder("redundancy", true);
        VoiceHouse x = Scene.FULL_HOUSE.get();
        Edge.due(x, 0, "redundancy", 7, false);
        Edge.due(x, 0, "redundancy", 7, true);
        Edge.due(x, 1, "redundancy", 7, true);
        Edge.due(x, 1, "redundancy", 7, false);
        Edge.due(x, 0, "redundancy", 0, false);
    }

    private static void start() {
        Edge.of(8, "The next NUMBER, and NEXT, are n (0 .. 65535): 1.");
        Edge.noSuchCoder("start", 5);
        for (int n : new int[] {-1, 65536, MIN, MAX}) {
            Edge.refused(Scene.FULL_HOUSE, Edge.BAD, "start", 0, n);
        }
        VoiceHouse x = Scene.FULL_HOUSE.get();
        for (int n : new int[] {65535, 0, 1, 65534}) {
            Edge.due(x, 1, "start", 7, n);
            Edge.due(x, n, "count", 7, 2);
            Edge.due(x, n, "count", 7, 3);
        }
        Edge.due(x, 0, "count", 6, 3);
    }

    private static void startIsRefused() {
        Edge.of(8, "BAD; STATE: it has encoded or decoded, or frames are in its LINE.");
        Edge.refused(Scene.BUSY, Edge.STATE, "start", 0, 5);
        Edge.refused(Scene.BUSY, Edge.STATE, "start", 1, 0);
        Edge.bad("start", 0, 65536);
        VoiceHouse x = Scene.FULL_HOUSE.get();
        x.wave(0, 0, 5, 0, 160);
        x.encode(0);
        x.drop(0, 0);
        Edge.refusedOn(x, Edge.STATE, "start", 0, 5);
        x.feed(2, 0);
        x.decode(2);
        Edge.due(x, 0, "count", 2, 1);
        Edge.refusedOn(x, Edge.STATE, "start", 2, 5);
        x.feed(4, 5);
        Edge.refusedOn(x, Edge.STATE, "start", 4, 5);
        x.drop(4, 0);
        Edge.due(x, 1, "start", 4, 5);
    }

    /** Samples that wait, settings, refused calls and other coders are no reason. */
    private static void startIsNotRefused() {
        Edge.of(8, "STATE: it has encoded or decoded, or frames are in its LINE.");
        VoiceHouse x = Scene.BUSY.get();
        x.wave(2, 0, 5, 0, 159);
        Edge.refusedOn(x, Edge.STATE, "encode", 2);
        Edge.refusedOn(x, Edge.STATE, "decode", 2);
        x.emphasis(2, true);
        Edge.due(x, 1, "start", 2, 40000);
        Edge.due(x, 40000, "count", 2, 2);
        Edge.due(x, 40000, "count", 2, 3);
        Edge.refusedOn(x, Edge.STATE, "decode", 2);
        x.sample(2, 5);
        Edge.due(x, 40000, "encode", 2);
        Edge.due(x, 160, "decode", 2);
        Edge.due(x, 0, "finding", 2);
    }
}
