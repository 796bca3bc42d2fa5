import java.util.Arrays;

/** Promises 28 to 35: decode, out, state, finding, repair, stage, join, drift. */
public final class DecoderTest {
    private static final int BAD = -1, STATE = -2, NONE = -4, WRONG = -5, NO = -2147483648;

    public static void main(String[] args) {
        decodeIsRefused();
        voiceIsRead();
        voiceOddBytes();
        voicePitch();
        voiceIndexes();
        silenceIsRead();
        lateAndFirst();
        labelsWrap();
        findings();
        findingsInOrder();
        bytesBehindAreNotLookedAt();
        repeated();
        repeatedAtFirst();
        mended();
        notMended();
        aheadIsCounted();
        out();
        state();
        findingAndRepair();
        stageIsRefused();
        noise();
        tilt();
        comb();
        emph();
        pathInOrder();
        stageIsNew();
        joinIsRefused();
        join();
        joinLooksAtSteps();
        drift();
        encoderAndDecoderAgree();
        Check.end();
    }

    private static VoiceHouse house() {
        VoiceHouse x = new VoiceHouse();
        x.coder(0);
        return x;
    }

    private static void outs(VoiceHouse x, String what, int from, int... want) {
        for (int k = 0; k < want.length; k++) {
            Check.due(what + ", sample " + (from + k), x.out(0, from + k), want[k]);
        }
    }

    private static void traced(VoiceHouse x, int... want) {
        String text = "TRACE " + Arrays.toString(want);
        Check.due(text, x.told(2), want.length);
        for (int k = 0; k < want.length; k++) {
            Check.due(text + ", number " + k, x.trace(k), want[k]);
        }
    }

    private static void decodeIsRefused() {
        Check.under(Document.promise(28));
        VoiceHouse x = house();
        Check.due("decode(1)", x.decode(1), BAD);
        Check.due("decode(-1)", x.decode(-1), BAD);
        Check.due("decode() of an empty line", x.decode(0), STATE);
        Check.due("nothing was decoded", x.count(0, 5), 0);
        x.wave(0, 0, 0, 0, 160);
        x.encode(0);
        x.drop(0, 0);
        Check.due("an empty line, but NEXT is behind", x.decode(0), 160);
        Check.due("a GAP", x.finding(0), 7);
        Check.due("NEXT is the next NUMBER", x.decode(0), STATE);
        Check.due("TRACE of the one before", x.trace(0), 37);
        x.feed(0, 60000);
        Check.due("a line of a LATE one", x.decode(0), 160);
        Check.due("LATE", x.count(0, 6), 1);
        Check.due("NEXT is ahead of NUMBER", x.decode(0), 160);
        Check.due("NEXT", x.count(0, 2), 3);
    }

    /** G(0) is 4: a pulse becomes 4, 2 and -1, as (4 * -8) >> 5; turned -4, -2 and 1. */
    private static void voiceIsRead() {
        Check.under(Document.promise(28));
        VoiceHouse x = house();
        Frames.sealed(x, 0, 0, Frames.voice(4, 11));
        Check.due("decode", x.decode(0), 160);
        outs(x, "an even pulse at 4, an odd one turned at 11", 0, 0, 0, 0, 0, 4, 2, -1, 0, 0, 0, 0, -4, -2, 1, 0);
        outs(x, "the same in the next part", 40, 0, 0, 0, 0, 4, 2, -1, 0, 0, 0, 0, -4, -2, 1, 0);
        traced(x, 20, 21, 40);
        Check.due("finding", x.finding(0), 0);
        Check.due("repair", x.repair(0), 0);
        Check.due("the frame is gone", x.count(0, 1), 0);
        Check.due("NEXT", x.count(0, 2), 1);
        Check.due("LAG", x.state(0, 1, 3, 0), 20);
        Check.due("H", x.state(0, 1, 0, 124), 4);
        Frames.sealed(x, 0, 1, Frames.with(Frames.voice(38, 38), 1, 0));
        x.decode(0);
        outs(x, "pulses as far as the part goes", 36, 0, 0, 4, 6, 0, 0);
    }

    /** Bytes that no encoder makes: SORT 255, RATE 254, b of 255 and 254, j of 63, lag and p with bits above. */
    private static void voiceOddBytes() {
        Check.under(Document.promise(28));
        VoiceHouse x = house();
        int[] row = Frames.with(Frames.voice(0, 0), 0, 255, 1, 254, 16, 255, 17, 254, 18, 63, 14, 128 + 5, 15, 248);
        Frames.sealed(x, 0, 0, row);
        Check.due("decode", x.decode(0), 160);
        // (255 / 2) modulo 20 is 7: the even pulse at 14, turned; the odd one at 15; G(51) = 28672
        outs(x, "odd bytes", 12, 0, 0, -28672, 14336, 21504, -7168, 0);
        VoiceHouse y = house();
        row = Frames.with(Frames.voice(0, 0), 1, 3, 16, 255, 17, 254);
        Frames.sealed(y, 0, 0, row);
        Check.due("RATE 3 is 1", y.decode(0), 320);
        // (255 / 2) modulo 40 is 7 too
        outs(y, "odd bytes of rate 1", 12, 0, 0, -4, 2, 3, -1, 0);
        VoiceHouse z = house();
        Frames.sealed(z, 0, 0, Frames.with(Frames.voice(0, 0), 29, 255, 30, 255));
        z.decode(0);
        Check.due("LAG of 255", z.state(0, 1, 3, 0), 147);
    }

    /** p of 7 on what is behind: (35 * a) >> 5; within the part the lag of 20 goes round. */
    private static void voicePitch() {
        Check.under(Document.promise(28));
        VoiceHouse x = house();
        Frames.sealed(x, 0, 0, Frames.with(Frames.voice(0, 0), 28, 0, 33, 24));
        x.decode(0);
        // G(24) = 256: the last part has 256, 128 + 256, -64 + 128, -64 at its begin
        outs(x, "the last part", 120, 256, 384, 64, -64, 0);
        Frames.sealed(x, 0, 1, Frames.with(Frames.voice(38, 38), 14, 20, 15, 7));
        x.decode(0);
        outs(x, "35 of 32 of it, 40 before", 0, 280, 420, 70, -70, 0);
        Check.due("the lag of 40 ends there, pulses come on top", x.out(0, 38), 4);
        Frames.sealed(x, 0, 2, Frames.with(Frames.voice(38, 38), 14, 127, 15, 1));
        x.decode(0);
        // 147 before: H(13) on, that is 13 samples behind the first of the frame before
        outs(x, "5 of 32 of what is 147 before", 0, 0, 0);
        Check.due("sample 25 is 38 of the frame before: (5 * 4) >> 5", x.out(0, 25), 0);
        Frames.sealed(x, 0, 3, Frames.with(Frames.voice(38, 38), 14, 0, 15, 7));
        x.decode(0);
        // the last 20 were .. 0, 4, 2 + 4 at their end: they come twice
        outs(x, "a lag of 20", 16, 0, 0, 4, 6, 0);
        outs(x, "goes round", 36, 0, 0, 8, 12);
    }

    /** INDEX 1 of -31: k is -31744; y(n) = e(n) + HALF(y(n - 1), 31744), for V(0) is the sample before. */
    private static void voiceIndexes() {
        Check.under(Document.promise(28));
        VoiceHouse x = house();
        Frames.sealed(x, 0, 0, Frames.with(Frames.voice(0, 20), 6, 0, 18, 24));
        x.decode(0);
        Check.due("-32 counts as -31", x.state(0, 1, 2, 0), -31);
        Check.due("no SATURATION", x.saturations(), 0);
        int[] e = new int[160];
        int[] pulse = {32, 16, -8};
        for (int part = 0; part < 4; part++) {
            int gain = part == 0 ? 256 : 4;
            for (int k = 0; k < 3; k++) {
                e[40 * part + k] += (gain * pulse[k]) >> 5;
                e[40 * part + 21 + k] += (gain * pulse[k]) >> 5;
            }
        }
        int last = 0;
        for (int n = 0; n < 160; n++) {
            last = e[n] - Math.floorDiv(last * -31744 + 16384, 32768);
            Check.due("sample " + n, x.out(0, n), last);
        }
        Check.due("INDEX byte 255 is 31", indexOf(255), 31);
        Check.due("INDEX byte 64 is -31", indexOf(64), -31);
        Check.due("INDEX byte 1 is -31", indexOf(1), -31);
        Check.due("INDEX byte 2 is -30", indexOf(2), -30);
    }

    private static int indexOf(int b) {
        VoiceHouse x = house();
        Frames.sealed(x, 0, 0, Frames.with(Frames.voice(0, 20), 13, b));
        x.decode(0);
        return x.state(0, 1, 2, 7);
    }

    private static void silenceIsRead() {
        Check.under(Document.promise(28));
        VoiceHouse x = house();
        x.start(0, 500);
        Frames.sealed(x, 0, 500, Frames.with(Frames.voice(0, 20), 6, 40));
        x.decode(0);
        Check.due("INDEX 1", x.state(0, 1, 2, 0), 8);
        Frames.sealed(x, 0, 501, Frames.with(Frames.silence(1, 65535), 3, 99));
        Check.due("decode", x.decode(0), 320);
        Check.due("repair", x.repair(0), 1);
        traced(x, 20, 21, 41);
        long z = 501;
        for (int n = 0; n < 320; n++) {
            z = (z * 1103515245L + 12345L) % (1L << 31);
            int draw = (int) (z / 65536 % 256) - 128;
            Check.due("sample " + n, x.out(0, n), Math.floorDiv(draw * 65535, 256));
        }
        Check.due("INDEX 1", x.state(0, 1, 2, 0), 0);
        Check.due("LAG stays", x.state(0, 1, 3, 0), 20);
        Frames.sealed(x, 0, 502, Frames.with(Frames.silence(0, 3), 0, 4));
        Check.due("SORT 4 is SILENCE", x.decode(0), 160);
        Check.due("repair", x.repair(0), 1);
    }

    private static void lateAndFirst() {
        Check.under(Document.promise(28));
        VoiceHouse x = house();
        x.start(0, 100);
        Frames.sealed(x, 0, 99, Frames.voice(0, 0));
        Frames.sealed(x, 0, 100 + 32768, Frames.voice(0, 0));
        Frames.sealed(x, 0, 100 + 32767, Frames.voice(0, 0));
        Frames.sealed(x, 0, 100, Frames.voice(10, 20));
        Frames.sealed(x, 0, 100, Frames.voice(12, 20));
        x.decode(0);
        Check.due("LATE", x.count(0, 6), 2);
        Check.due("left", x.count(0, 1), 2);
        Check.due("the first of two", x.out(0, 10), 4);
        Check.due("label(0, 0)", x.label(0, 0), 100 + 32767);
        Check.due("the second of two", x.label(0, 1), 100);
        x.decode(0);
        Check.due("it was LATE then", x.count(0, 6), 3);
        Check.due("and a GAP", x.finding(0), 7);
    }

    private static void labelsWrap() {
        Check.under(Document.promise(28));
        VoiceHouse x = house();
        x.start(0, 65535);
        Frames.sealed(x, 0, 0, Frames.with(mendingVoice(), 34, 77, 35, 0));
        x.decode(0);
        Check.due("0 is ahead of 65535", x.count(0, 6), 0);
        Check.due("and mends it", x.repair(0), 3);
        Check.due("LAG", x.state(0, 1, 3, 0), 97);
        x.decode(0);
        Check.due("NEXT", x.count(0, 2), 1);
        Check.due("finding", x.finding(0), 0);
    }

    private static int[] mendingVoice() {
        return Frames.with(Arrays.copyOf(Frames.voice(0, 20), 37), 5, 2);
    }

    private static void found(String what, VoiceHouse x, int finding) {
        Check.due("decode: " + what, x.decode(0), 160);
        Check.due("finding: " + what, x.finding(0), finding);
        Check.due("found: " + what, x.found(finding), 1);
        Check.due("repair: " + what, x.repair(0), 2);
        traced(x, 20, 21, 30 + finding, 42, 60);
        Check.due("rows are 0: " + what, x.count(0, 9), 0);
    }

    private static void findings() {
        Check.under(Document.promise(28));
        VoiceHouse x = house();
        x.lose(0, Frames.sealed(x, 0, 0, Frames.voice(0, 0)));
        found("no ROW", x, 1);
        x = house();
        x.shorts(0, Frames.sealed(x, 0, 0, Frames.voice(0, 0)));
        found("shorts", x, 2);
        x = house();
        Frames.raw(x, 0, 0, 1, 2, 3, 4, 5);
        found("five bytes", x, 3);
        x = house();
        x.feed(0, 0);
        found("no bytes", x, 3);
        x = house();
        x.damage(0, Frames.sealed(x, 0, 0, Frames.voice(0, 0)), 20, 1);
        found("another SUM", x, 4);
        x = house();
        Frames.sealed(x, 0, 0, Frames.with(Frames.voice(0, 0), 2, 128));
        found("a BODY of -128", x, 5);
        x = house();
        Frames.sealed(x, 0, 0, Frames.with(Frames.voice(0, 0), 5, 255));
        found("REDUNDANCY of -1", x, 5);
        x = house();
        Frames.sealed(x, 0, 0, Frames.with(Frames.voice(0, 0), 2, 27));
        found("a BODY of 27", x, 6);
        x = house();
        Frames.sealed(x, 0, 0, Frames.with(Frames.silence(0, 5), 2, 1));
        found("a BODY of 1", x, 6);
        x = house();
        x.feed(0, 1);
        x.drop(0, 0);
        x.feed(0, 5);
        Check.due("decode", x.decode(0), 160);
        Check.due("a GAP", x.finding(0), 7);
        Check.due("found(7)", x.found(7), 1);
        traced(x, 37, 42, 60);
    }

    /** The first that is met: no looking ahead. */
    private static void findingsInOrder() {
        Check.under(Document.promise(28));
        Check.due("shorts of five", firstFinding(true, 1, 0, 28, 0, 0), 2);
        Check.due("no HEAD before SUM", firstFinding(false, 1, 0, 28, 0, 0), 3);
        Check.due("SUM before SIZE", firstFinding(false, 1, 0, 128, 0, 0, 0, 0), 4);
        VoiceHouse x = house();
        Frames.sealed(x, 0, 0, 1, 0, 127, 0, 0, 255, 0);
        x.decode(0);
        Check.due("a BODY too long before REDUNDANCY below 0", x.finding(0), 3);
        x = house();
        Frames.sealed(x, 0, 0, 1, 0, 1, 0, 0, 255, 0);
        x.decode(0);
        Check.due("REDUNDANCY below 0 before a BODY too short", x.finding(0), 5);
        x = house();
        Frames.sealed(x, 0, 0, 1, 0, 1, 0, 0, 1, 0);
        x.decode(0);
        Check.due("REDUNDANCY too long before a BODY too short", x.finding(0), 3);
        x = house();
        Frames.sealed(x, 0, 0, 2, 0, 2, 0, 0, 0, 0);
        x.decode(0);
        Check.due("one byte is not two", x.finding(0), 3);
        x = house();
        Frames.sealed(x, 0, 0, 2, 0, 1, 0, 0, 0, 0);
        x.decode(0);
        Check.due("the SUM is a BODY of one", x.finding(0), 6);
        x = house();
        Frames.sealed(x, 0, 0, 2, 0, 2, 0, 0, 0, 1, 0);
        x.decode(0);
        Check.due("the SUM is PEAK's low byte", x.finding(0), 0);
        x = house();
        // 1 0 0 0 0: the sixth byte is SUM and the size of REDUNDANCY: 164, below 0
        Frames.sealed(x, 0, 0, 1, 0, 0, 0, 0, 0);
        x.decode(0);
        Check.due("a ROW of six", x.finding(0), 5);
    }

    private static int firstFinding(boolean shorts, int... bytes) {
        VoiceHouse x = house();
        Frames.raw(x, 0, 0, bytes);
        if (shorts) {
            x.shorts(0, 0);
        }
        x.decode(0);
        return x.finding(0);
    }

    private static void bytesBehindAreNotLookedAt() {
        Check.under(Document.promise(28));
        VoiceHouse x = house();
        int[] row = Frames.with(Arrays.copyOf(Frames.voice(4, 10), 50), 2, 30, 5, 3);
        Frames.sealed(x, 0, 0, row);
        x.decode(0);
        Check.due("finding", x.finding(0), 0);
        Check.due("sample 4", x.out(0, 4), 4);
    }

    /** With INDEXES 0 the sample is the excitation: 28, 20, 12, 4, 0 of 32 of what is LAG before. */
    private static void repeated() {
        Check.under(Document.promise(28));
        VoiceHouse x = house();
        Frames.sealed(x, 0, 0, Frames.with(Frames.voice(0, 20), 29, 20, 33, 40));
        x.decode(0);
        Check.due("LAG", x.state(0, 1, 3, 0), 40);
        // G(40) = 4096
        int[] part = new int[40];
        for (int k = 0; k < 40; k++) {
            part[k] = x.out(0, 120 + k);
        }
        Check.due("4096", part[0], 4096);
        Frames.sealed(x, 0, 20, Frames.voice(0, 20));
        int[] strengths = {28, 20, 12, 4, 0, 0};
        for (int strength : strengths) {
            Check.due("decode", x.decode(0), 160);
            Check.due("repair", x.repair(0), 2);
            traced(x, 37, 42, 60);
            for (int n = 0; n < 160; n++) {
                part[n % 40] = (strength * part[n % 40]) >> 5;
                Check.due("H " + strength + ", " + n, x.state(0, 1, 0, n), part[n % 40]);
            }
            Check.due("LAG stays", x.state(0, 1, 3, 0), 40);
        }
        Check.due("REPAIRED", x.count(0, 7), 6);
        Check.due("MENDED", x.count(0, 8), 0);
        Frames.sealed(x, 0, 7, Frames.with(Frames.voice(0, 20), 29, 20, 33, 40));
        x.decode(0);
        Check.due("VOICE again", x.repair(0), 0);
        Check.due("JOINED behind a repair", x.trace(3), 60);
        x.decode(0);
        Check.due("28 once more", x.state(0, 1, 0, 0), 3584);
    }

    /** RATE at first is that of coder(), whatever rate() says. */
    private static void repeatedAtFirst() {
        Check.under(Document.promise(28));
        VoiceHouse x = new VoiceHouse();
        x.coder(1);
        x.rate(0, 0);
        x.feed(0, 9);
        Check.due("320 samples", x.decode(0), 320);
        x.coder(0);
        x.rate(1, 1);
        x.feed(1, 9);
        Check.due("160 samples", x.decode(1), 160);
        Frames.sealed(x, 1, 1, Frames.silence(1, 9));
        Check.due("320 of the frame", x.decode(1), 320);
        Check.due("320 of the one before", x.decode(1), 320);
    }

    private static void mended() {
        Check.under(Document.promise(28));
        VoiceHouse x = house();
        Frames.sealed(x, 0, 0, Frames.with(Frames.voice(0, 20), 29, 20, 33, 40));
        x.decode(0);
        Frames.sealed(x, 0, 2, Frames.with(mendingVoice(), 34, 128 + 40, 35, 248 + 3));
        x.decode(0);
        Check.due("repair", x.repair(0), 3);
        traced(x, 37, 20, 21, 43, 60);
        Check.due("LAG is 60", x.state(0, 1, 3, 0), 60);
        Check.due("it stays in the line", x.count(0, 1), 1);
        // 60 before the first of each part: 15 of 32 of it; part 0 has the last part's begin at its sample 20
        Check.due("sample 20", x.state(0, 1, 0, 20), (15 * 4096) >> 5);
        Check.due("MENDED", x.count(0, 8), 1);
        Check.due("REPAIRED", x.count(0, 7), 1);
        x.decode(0);
        Check.due("VOICE", x.repair(0), 0);
        VoiceHouse y = house();
        y.lose(0, Frames.sealed(y, 0, 0, Frames.voice(0, 20)));
        Frames.sealed(y, 0, 1, mendingVoice());
        y.decode(0);
        traced(y, 20, 21, 31, 20, 21, 43, 60);
    }

    /** MENDED frames count as REPAIRED for the strength of a REPEATED one behind them. */
    private static void notMended() {
        Check.under(Document.promise(28));
        VoiceHouse x = house();
        Frames.sealed(x, 0, 0, Frames.with(Frames.voice(0, 20), 29, 20, 33, 40));
        x.decode(0);
        int ahead = Frames.sealed(x, 0, 2, Frames.with(mendingVoice(), 34, 20, 35, 7));
        x.decode(0);
        Check.due("MENDED", x.repair(0), 3);
        int before = x.state(0, 1, 0, 120);
        x.lose(0, ahead);
        x.decode(0);
        Check.due("REPEATED behind it", x.repair(0), 2);
        Check.due("by 20 of 32", x.state(0, 1, 0, 0), (20 * before) >> 5);
        VoiceHouse y = house();
        Frames.sealed(y, 0, 1, Frames.with(mendingVoice(), 5, 1));
        y.decode(0);
        Check.due("one byte of REDUNDANCY", y.repair(0), 2);
        traced(y, 37, 20, 21, 42, 60);
        Check.due("no FINDING of it", y.found(3) + y.found(4) + y.found(5) + y.found(6), 0);
    }

    private static void aheadIsCounted() {
        Check.under(Document.promise(28));
        VoiceHouse x = house();
        Frames.sealed(x, 0, 1, Frames.with(mendingVoice(), 2, 27));
        x.decode(0);
        Check.due("its BODY is read, too", x.repair(0), 2);
        Check.due("its FINDING counts", x.found(6), 1);
        Check.due("but is not told", x.finding(0), 7);
        x.decode(0);
        Check.due("it is told now", x.finding(0), 6);
        Check.due("and counts again", x.found(6), 2);
        x.lose(0, Frames.sealed(x, 0, 3, Frames.voice(0, 0)));
        Frames.sealed(x, 0, 3, mendingVoice());
        x.decode(0);
        Check.due("the first one alone is looked at", x.repair(0), 2);
        Check.due("LOST", x.found(1), 1);
    }

    private static void out() {
        Check.under(Document.promise(29));
        VoiceHouse x = house();
        Check.due("out() before decode()", x.out(0, 0), NO);
        Check.due("status()", x.status(), BAD);
        Frames.sealed(x, 0, 0, Frames.voice(0, 20));
        x.decode(0);
        Check.due("out(0, 0)", x.out(0, 0), 4);
        Check.due("status()", x.status(), 0);
        Check.due("out(0, -1)", x.out(0, -1), NO);
        Check.due("out(0, 160)", x.out(0, 160), NO);
        Check.due("status()", x.status(), BAD);
        Check.due("out(1, 0)", x.out(1, 0), NO);
        Check.due("out(0, 159)", x.out(0, 159), 0);
    }

    private static void state() {
        Check.under(Document.promise(30));
        VoiceHouse x = house();
        Frames.sealed(x, 0, 0, Frames.with(Frames.voice(38, 38), 13, 41, 29, 100));
        x.decode(0);
        Check.due("H(159)", x.state(0, 1, 0, 159), 6);
        Check.due("H(158)", x.state(0, 1, 0, 158), 4);
        Check.due("V(0) is the last sample", x.state(0, 1, 1, 0), x.out(0, 159));
        Check.due("INDEX 8", x.state(0, 1, 2, 7), 9);
        Check.due("INDEX 7", x.state(0, 1, 2, 6), 0);
        Check.due("LAG", x.state(0, 1, 3, 0), 120);
        Check.due("the COPY is another", x.state(0, 0, 3, 0), 40);
        int[][] bad = {{-1, 0, 0, 0}, {1, 0, 0, 0}, {0, -1, 0, 0}, {0, 2, 0, 0}, {0, 0, -1, 0}, {0, 0, 4, 0},
            {0, 0, 0, -1}, {0, 0, 0, 160}, {0, 0, 1, -1}, {0, 0, 1, 8}, {0, 0, 2, -1}, {0, 0, 2, 8}, {0, 0, 3, 1},
            {0, 0, 3, -1}};
        for (int[] b : bad) {
            Check.due("a bad state", x.state(b[0], b[1], b[2], b[3]), NO);
            Check.due("status()", x.status(), BAD);
        }
    }

    private static void findingAndRepair() {
        Check.under("Promises 31 to 32");
        VoiceHouse x = house();
        Check.due("finding(1)", x.finding(1), BAD);
        Check.due("repair(1)", x.repair(1), BAD);
        Check.due("finding() at first", x.finding(0), 0);
        Check.due("repair() at first", x.repair(0), NONE);
        Check.due("status()", x.status(), NONE);
        x.feed(0, 0);
        x.decode(0);
        Check.due("finding()", x.finding(0), 3);
        Frames.sealed(x, 0, 1, Frames.voice(0, 0));
        x.decode(0);
        Check.due("finding() of the latest", x.finding(0), 0);
        Check.due("repair() of the latest", x.repair(0), 0);
    }

    private static void stageIsRefused() {
        Check.under(Document.promise(33));
        VoiceHouse x = house();
        int[][] bad = {{1, 0, 0}, {-1, 0, 0}, {0, -1, 0}, {0, 4, 0}, {0, 0, -1}, {0, 0, 7}, {0, 4, 5}};
        for (int[] b : bad) {
            Check.due("a bad stage", x.stage(b[0], b[1], b[2]), BAD);
        }
        Check.due("stage(0, 0, 5)", x.stage(0, 0, 5), WRONG);
        Check.due("status()", x.status(), WRONG);
        Check.due("stage(0, 3, 6)", x.stage(0, 3, 6), WRONG);
        for (int kind = 1; kind <= 4; kind++) {
            Check.due("stage", x.stage(0, 2, kind), kind - 1);
        }
        Check.due("a refused one leaves it", x.stage(0, 2, 5), WRONG);
        Check.due("stage", x.stage(0, 2, 0), 4);
        Check.due("another place", x.stage(0, 1, 0), 0);
    }

    /** G(51) >> 4 is 1792; draws from 1 on, and it draws in a SILENCE too, where GAIN is 0. */
    private static void noise() {
        Check.under(Document.promise(33));
        VoiceHouse x = house();
        VoiceHouse plain = house();
        x.stage(0, 0, 1);
        int[][] rows = {Frames.with(Frames.voice(0, 20), 33, 51), Frames.silence(0, 1000),
            Frames.with(Frames.voice(0, 20), 33, 30)};
        int[] gains = {28672, 0, (4 + 2) * 128};
        long z = 1;
        for (int k = 0; k < 3; k++) {
            Frames.sealed(x, 0, k, rows[k]);
            Frames.sealed(plain, 0, k, rows[k]);
            x.decode(0);
            plain.decode(0);
            traced(x, 20, 21, k == 1 ? 41 : 40, 51);
            for (int n = 0; n < 160; n++) {
                z = (z * 1103515245L + 12345L) % (1L << 31);
                int draw = (int) (z / 65536 % 256) - 128;
                int v = plain.out(0, n) + Math.floorDiv(draw * (gains[k] / 16), 256);
                Check.due("noise " + n, x.out(0, n), Math.max(-32768, Math.min(32767, v)));
            }
        }
        x.feed(0, 9);
        x.decode(0);
        Check.due("a repaired frame keeps GAIN", x.repair(0), 2);
        boolean some = false;
        for (int n = 0; n < 160; n++) {
            some |= x.out(0, n) != 0;
        }
        Check.isTrue("so it has noise", some);
    }

    /** 4, 2, -1: less a quarter, rounded: HALF(4, 8192) = 1, HALF(2, 8192) = 1, HALF(-1, 8192) = 0. */
    private static void tilt() {
        Check.under(Document.promise(33));
        VoiceHouse x = house();
        x.stage(0, 3, 2);
        Frames.sealed(x, 0, 0, Frames.voice(0, 38));
        x.decode(0);
        traced(x, 20, 21, 40, 52);
        outs(x, "TILT", 0, 4, 1, -2, 0, 0);
        outs(x, "TILT", 38, 0, 4, 3, 1, -2);
        Check.due("the last one", x.out(0, 159), 4);
        Frames.sealed(x, 0, 1, Frames.voice(10, 20));
        x.decode(0);
        Check.due("what came last in the frame before", x.out(0, 0), -1);
    }

    /** HALF(c, 6554) is a fifth. LAG 40: each part's pulses come again, a fifth as high, in the next one. */
    private static void comb() {
        Check.under(Document.promise(33));
        VoiceHouse x = house();
        x.stage(0, 0, 3);
        int[] row = Frames.voice(0, 20);
        for (int k = 0; k < 4; k++) {
            row = Frames.with(row, 14 + 5 * k, 20, 18 + 5 * k, 24);
        }
        long[] c = new long[480];
        int came = 0;
        for (int frame = 0; frame < 3; frame++) {
            Frames.sealed(x, 0, frame, frame < 2 ? row : Frames.with(row, 29, 127));
            VoiceHouse plain = house();
            Frames.sealed(plain, 0, 0, row);
            plain.decode(0);
            x.decode(0);
            traced(x, 20, 21, 40, 53, 52);
            int lag = frame < 2 ? 40 : 147;
            for (int n = 0; n < 160; n++) {
                int y = plain.out(0, n);
                long tilted = y - Math.floorDiv(came * 8192 + 16384, 32768);
                came = y;
                int at = 160 * frame + n;
                c[at] = tilted + Math.floorDiv((at < lag ? 0 : c[at - lag]) * 6554 + 16384, 32768L);
                Check.due("COMB " + at, x.out(0, n), c[at]);
            }
        }
    }

    /** HALF(o, 22282) is 0.68 of it: 4 gives 3; 2 and 3 give 5, 3; -1 and 3 give 2, 1; then 1 for ever. */
    private static void emph() {
        Check.under(Document.promise(33));
        VoiceHouse x = house();
        x.stage(0, 1, 4);
        Frames.sealed(x, 0, 0, Frames.voice(0, 38));
        x.decode(0);
        traced(x, 20, 21, 40, 54);
        outs(x, "EMPH", 0, 4, 5, 2, 1, 1, 1);
        outs(x, "EMPH", 39, 5, 7, 7, 4, 3, 2, 1);
        Check.due("the last one", x.out(0, 159), 5);
        Frames.sealed(x, 0, 1, Frames.voice(10, 20));
        x.decode(0);
        Check.due("what it gave last in the frame before", x.out(0, 0), 3);
    }

    private static void pathInOrder() {
        Check.under(Document.promise(33));
        VoiceHouse x = house();
        for (int place = 0; place < 4; place++) {
            x.stage(0, place, 4 - place);
        }
        Frames.sealed(x, 0, 0, Frames.voice(0, 38));
        x.decode(0);
        traced(x, 20, 21, 40, 54, 53, 52, 52, 51);
        x.stage(0, 1, 0);
        x.feed(0, 9);
        x.decode(0);
        traced(x, 37, 42, 54, 52, 51, 60);
        VoiceHouse y = house();
        y.stage(0, 0, 2);
        y.stage(0, 1, 4);
        VoiceHouse z = house();
        z.stage(0, 0, 4);
        z.stage(0, 1, 2);
        Frames.sealed(y, 0, 0, Frames.voice(0, 38));
        Frames.sealed(z, 0, 0, Frames.voice(0, 38));
        y.decode(0);
        z.decode(0);
        // TILT first: 4, 1, -2, 0, then 4, 4, 1, 1; EMPH first: 4, 5, 2, 1, then 4, 4, 1, 0 (HALF(2, 8192) is 1)
        outs(y, "TILT, EMPH", 0, 4, 4, 1, 1);
        outs(z, "EMPH, TILT", 0, 4, 4, 1, 0);
    }

    private static void stageIsNew() {
        Check.under(Document.promise(33));
        VoiceHouse x = house();
        x.stage(0, 0, 4);
        Frames.sealed(x, 0, 0, Frames.voice(0, 38));
        x.decode(0);
        x.stage(0, 0, 4);
        Frames.sealed(x, 0, 1, Frames.voice(10, 20));
        x.decode(0);
        Check.due("no memory of the old one", x.out(0, 0), 0);
    }

    private static void joinIsRefused() {
        Check.under(Document.promise(34));
        VoiceHouse x = house();
        Check.due("join(0, 0)", x.join(0, 0), BAD);
        Check.due("join(0, 32768)", x.join(0, 32768), BAD);
        Check.due("join(1, 5)", x.join(1, 5), BAD);
        Check.due("join(0, 1)", x.join(0, 1), 2000);
        Check.due("join(0, 32767)", x.join(0, 32767), 1);
        Check.due("join(0, 7)", x.join(0, 7), 32767);
    }

    /** It stands in TRACE where this frame or the one before was REPAIRED, behind the filters. */
    private static void join() {
        Check.under(Document.promise(34));
        VoiceHouse x = house();
        Frames.sealed(x, 0, 0, Frames.voice(38, 38));
        x.decode(0);
        traced(x, 20, 21, 40);
        Check.due("out(0, 159)", x.out(0, 159), 6);
        x.stage(0, 0, 4);
        x.feed(0, 9);
        x.decode(0);
        Check.due("JOINED", x.trace(x.told(2) - 1), 60);
        Frames.sealed(x, 0, 2, Frames.voice(0, 20));
        x.decode(0);
        Check.due("JOINED, the one before was REPAIRED", x.trace(x.told(2) - 1), 60);
        Frames.sealed(x, 0, 3, Frames.voice(0, 20));
        x.decode(0);
        Check.due("not JOINED", x.trace(x.told(2) - 1), 54);
    }

    /** OUT ends high by its filter; without it the next frame begins low: that step is cut into steps of B. */
    private static void joinLooksAtSteps() {
        Check.under(Document.promise(34));
        for (int bound : new int[] {1, 500, 5000}) {
            VoiceHouse x = house();
            x.join(0, bound);
            x.stage(0, 0, 4);
            int[] row = Frames.with(Frames.voice(38, 38), 33, 40);
            Frames.sealed(x, 0, 0, row);
            x.decode(0);
            int last = x.out(0, 159);
            int step = bound;
            for (int n = 1; n < 160; n++) {
                step = Math.max(step, Math.abs(x.out(0, n) - x.out(0, n - 1)));
            }
            x.stage(0, 0, 0);
            x.feed(0, 9);
            int[] y = repeatedBehind(x);
            x.decode(0);
            for (int n = 1; n < 160; n++) {
                step = Math.max(step, Math.abs(y[n] - y[n - 1]));
            }
            for (int n = 0; n < 160; n++) {
                last = Math.max(last - step, Math.min(last + step, y[n]));
                Check.due("JOINED by " + step + ", sample " + n, x.out(0, n), last);
            }
        }
    }

    /** With LAG 20 and INDEXES 0: 28 of 32 of the 20 samples before each part, twice. */
    private static int[] repeatedBehind(VoiceHouse x) {
        int[] h = new int[320];
        for (int k = 0; k < 160; k++) {
            h[k] = x.state(0, 1, 0, k);
        }
        for (int part = 0; part < 4; part++) {
            for (int n = 0; n < 40; n++) {
                h[160 + 40 * part + n] = (28 * h[140 + 40 * part + n % 20]) >> 5;
            }
        }
        return Arrays.copyOfRange(h, 160, 320);
    }

    private static void drift() {
        Check.under(Document.promise(35));
        VoiceHouse x = house();
        Check.due("drift(0, 2)", x.drift(0, 2), BAD);
        Check.due("drift(0, -2)", x.drift(0, -2), BAD);
        Check.due("drift(1, 0)", x.drift(1, 0), BAD);
        Check.due("drift(0, 1)", x.drift(0, 1), 0);
        Check.due("drift(0, -1)", x.drift(0, -1), 1);
        Check.due("drift(0, 1)", x.drift(0, 1), -1);
        // samples 78, 79 | 80, 81: 4, 6 | 4, 2 with other pulses in the third part
        Frames.sealed(x, 0, 0, Frames.with(Frames.voice(38, 38), 26, 0, 27, 20));
        Check.due("one more", x.decode(0), 161);
        outs(x, "the mean behind sample 79", 78, 4, 6, 5, 4, 2, -1);
        Check.due("the last one", x.out(0, 160), 6);
        Check.due("none is due then", x.drift(0, -1), 0);
        Frames.sealed(x, 0, 1, Frames.with(Frames.voice(38, 38), 26, 0, 27, 20));
        Check.due("one less", x.decode(0), 159);
        outs(x, "without sample 80", 78, 4, 6, 2, -1);
        Check.due("out(0, 158)", x.out(0, 158), 6);
        Check.due("out(0, 159)", x.out(0, 159), NO);
        Check.due("none is due then", x.drift(0, 1), 0);
        Check.due("drift(0, 0)", x.drift(0, 0), 1);
        Frames.sealed(x, 0, 2, Frames.with(Frames.voice(0, 20), 1, 1));
        Check.due("none was due", x.decode(0), 320);
        x.drift(0, 1);
        // rate 1: 158, 159 | 160: turned pulses at the part's end, -4, -6, then 4: (-6 + 4) >> 1
        Frames.sealed(x, 0, 3, Frames.with(Frames.voice(79, 79), 1, 1, 26, 0, 27, 20));
        Check.due("one more of 320", x.decode(0), 321);
        outs(x, "the mean behind sample 159", 158, -4, -6, -1, 4, 2);
    }

    /** Without loss the decoder's STATE is the COPY, and OUT what the COPY heard. */
    private static void encoderAndDecoderAgree() {
        Check.under(Document.promise(28));
        for (int rate = 0; rate < 2; rate++) {
            VoiceHouse x = new VoiceHouse();
            x.coder(rate);
            x.silence(0, 60);
            for (int k = 0; k < 12; k++) {
                x.wave(0, k % 5, 30 + k, k % 3 == 0 ? 50 : 9000 + 1000 * k, 160 + 160 * rate);
                x.encode(0);
                x.decode(0);
                Check.due("finding", x.finding(0), 0);
                Check.due("digest of frame " + k, x.digest(0, 1), x.digest(0, 0));
                Check.due("the last sample", x.out(0, 159 + 160 * rate), x.state(0, 0, 1, 0));
            }
        }
    }
}
