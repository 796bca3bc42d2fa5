/** Promises 36 to 38: mix, resample, work. */
public final class BenchTest {
    private static final int BAD = -1, STATE = -2, NO = -2147483648;

    public static void main(String[] args) {
        refusals();
        mix();
        mixSaturates();
        resample();
        work();
        Check.end();
    }

    /** Coder 0 has decoded noise of 160 samples, coder 1 of 320 samples, coder 2 nothing. */
    private static VoiceHouse house() {
        VoiceHouse x = new VoiceHouse();
        for (int c = 0; c < 3; c++) {
            x.coder(c % 2);
            x.silence(c, 32769);
        }
        x.wave(0, 0, 30000, 0, 160);
        x.wave(1, 0, -20000, 0, 320);
        for (int c = 0; c < 2; c++) {
            x.encode(c);
            x.decode(c);
        }
        return x;
    }

    private static void refusals() {
        Check.under("Promises 36 to 37");
        VoiceHouse x = house();
        int[][] badMix = {{-1, 0, 1, 1}, {0, 3, 1, 1}, {0, 0, 33, 1}, {0, 0, -33, 1}, {0, 0, 1, 33}, {0, 0, 1, -33},
            {0, 0, 2147483647, 0}, {0, 0, -2147483648, 0}};
        for (int[] b : badMix) {
            Check.due("a bad mix", x.mix(b[0], b[1], b[2], b[3]), BAD);
        }
        Check.due("mix(0, 2)", x.mix(0, 2, 1, 1), STATE);
        Check.due("mix(2, 0)", x.mix(2, 0, 1, 1), STATE);
        Check.due("status()", x.status(), STATE);
        Check.due("BAD is named first", x.mix(2, 0, 33, 1), BAD);
        int[][] badResample = {{-1, 1, 1}, {3, 1, 1}, {0, 0, 1}, {0, 5, 1}, {0, 1, 0}, {0, 1, 9}, {0, -1, 1}, {0, 1, -1}};
        for (int[] b : badResample) {
            Check.due("a bad resample", x.resample(b[0], b[1], b[2]), BAD);
        }
        Check.due("resample(2)", x.resample(2, 1, 1), STATE);
        Check.due("BAD is named first", x.resample(2, 0, 1), BAD);
        Check.due("the bench is empty still", x.told(3), 0);
        x.mix(0, 0, 32, 0);
        x.mix(0, 2, 1, 1);
        Check.due("a refused call leaves it", x.told(3), 160);
    }

    private static void mix() {
        Check.under(Document.promise(36));
        VoiceHouse x = house();
        Check.due("mix", x.mix(0, 1, 7, -9), 160);
        Check.due("told(3)", x.told(3), 160);
        for (int n = 0; n < 160; n++) {
            Check.due("work(" + n + ")", x.work(n), Math.floorDiv(7 * x.out(0, n) - 9 * x.out(1, n), 32));
        }
        Check.due("the other way", x.mix(1, 0, 32, 0), 160);
        Check.due("work(159)", x.work(159), x.out(1, 159));
        Check.due("one alone", x.mix(1, 1, 16, 16), 320);
        Check.due("work(319)", x.work(319), x.out(1, 319));
        Check.due("SATURATIONS", x.saturations(), 0);
    }

    private static void mixSaturates() {
        Check.under(Document.promise(36));
        VoiceHouse x = house();
        long cut = 0;
        x.mix(0, 0, 32, 32);
        for (int n = 0; n < 160; n++) {
            int v = 2 * x.out(0, n);
            int s = Math.max(-32768, Math.min(32767, v));
            cut += v == s ? 0 : 1;
            Check.due("work(" + n + ")", x.work(n), s);
        }
        // a draw of 128 sizes of 30000 / 256 stays below 15001: twice that is a sample
        Check.due("twice a half is not cut", cut, 0);
        x.stage(0, 0, 4);
        for (int k = 0; k < 3; k++) {
            x.wave(0, 0, 30000, 0, 160);
            x.encode(0);
            x.decode(0);
        }
        long before = x.saturations();
        x.mix(0, 0, 32, 32);
        for (int n = 0; n < 160; n++) {
            int v = 2 * x.out(0, n);
            int s = Math.max(-32768, Math.min(32767, v));
            cut += v == s ? 0 : 1;
            Check.due("work(" + n + ")", x.work(n), s);
        }
        Check.isTrue("something is cut", cut > 0);
        Check.due("SATURATIONS", x.saturations() - before, cut);
    }

    private static void resample() {
        Check.under(Document.promise(37));
        VoiceHouse x = house();
        for (int c = 0; c < 2; c++) {
            for (int up = 1; up <= 4; up++) {
                for (int down = 1; down <= 8; down++) {
                    resampled(x, c, up, down);
                }
            }
        }
        x.drift(1, 1);
        x.wave(1, 0, -20000, 0, 320);
        x.encode(1);
        x.decode(1);
        Check.due("321 samples, four times", x.resample(1, 4, 1), 1284);
        Check.due("the last one", x.work(1283), x.out(1, 320));
        Check.due("no more", x.work(1284), NO);
        // between the last two: 3 parts of the one, 1 of the other
        Check.due("work(1277)", x.work(1277), (3 * x.out(1, 319) + x.out(1, 320)) / 4);
    }

    private static void resampled(VoiceHouse x, int c, int up, int down) {
        int l = c == 0 ? 160 : 320;
        int size = l * up / down;
        Check.due("resample(" + c + ", " + up + ", " + down + ")", x.resample(c, up, down), size);
        for (int i = 0; i < size; i += 7) {
            int k = i * down / up;
            int f = i * down % up;
            int next = x.out(c, Math.min(k + 1, l - 1));
            Check.due("work(" + i + ")", x.work(i), (x.out(c, k) * (up - f) + next * f) / up);
        }
    }

    private static void work() {
        Check.under(Document.promise(38));
        VoiceHouse x = house();
        Check.due("work(0)", x.work(0), NO);
        Check.due("status()", x.status(), BAD);
        x.mix(0, 0, 32, 0);
        Check.due("work(-1)", x.work(-1), NO);
        Check.due("work(160)", x.work(160), NO);
        Check.due("work(159)", x.work(159), x.out(0, 159));
        Check.due("status()", x.status(), 0);
        x.clear();
        Check.due("work(0) of a cleared bench", x.work(0), NO);
    }
}
