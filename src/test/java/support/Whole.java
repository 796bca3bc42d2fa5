import java.util.ArrayList;
import java.util.List;

/** All that a house tells, and what it makes of the same calls from there on; the house is used up by it. */
final class Whole {
    private final VoiceHouse x;
    private final List<Long> all = new ArrayList<>();

    private Whole(VoiceHouse x) {
        this.x = x;
    }

    static List<Long> of(VoiceHouse x) {
        Whole whole = new Whole(x);
        whole.house();
        // of a full house more coders than these would take it beyond its 512 calls
        int coders = Math.min(3, x.told(0));
        for (int c = 0; c < coders; c++) {
            whole.coder(c);
            whole.line(c);
        }
        for (int c = 0; c < coders; c++) {
            whole.settings(c);
        }
        for (int c = 0; c < coders; c++) {
            whole.future(c);
        }
        return whole.all;
    }

    private void add(long... numbers) {
        for (long number : numbers) {
            all.add(number);
        }
    }

    private void house() {
        for (int what = 0; what <= 3; what++) {
            add(x.told(what));
        }
        for (int i = 0; i < x.told(2); i++) {
            add(x.trace(i));
        }
        for (int i = 0; i < x.told(3); i += 13) {
            add(x.work(i));
        }
        for (int kind = 1; kind <= 7; kind++) {
            add(x.found(kind));
        }
        add(x.saturations());
    }

    private void coder(int c) {
        for (int what = 0; what <= 9; what++) {
            add(x.count(c, what));
        }
        add(x.digest(c, 0), x.digest(c, 1), x.finding(c), x.repair(c));
        add(x.out(c, 0), x.out(c, 80), x.out(c, 159), x.pick(c, 3, 0), x.index(c, 1), x.cost(c, 3, 1, false));
    }

    private void line(int c) {
        for (int i = 0; i < Math.min(5, x.count(c, 1)); i++) {
            int length = x.length(c, i);
            // resum() tells bytes from shorts, and leaves a right SUM as it is
            add(length, x.label(c, i), x.byteOf(c, i, 2), x.byteOf(c, i, length - 1), x.resum(c, i));
        }
    }

    /** Each one is read by being set, and set again. */
    private void settings(int c) {
        int rate = x.rate(c, 0);
        x.rate(c, rate);
        int emphasis = x.emphasis(c, false);
        x.emphasis(c, emphasis == 1);
        int pitch = x.search(c, 0, 0);
        x.search(c, 0, pitch);
        int pulses = x.search(c, 1, 0);
        x.search(c, 1, pulses);
        int level = x.silence(c, 0);
        x.silence(c, level);
        int redundancy = x.redundancy(c, false);
        x.redundancy(c, redundancy == 1);
        int bound = x.join(c, 1);
        x.join(c, bound);
        int drift = x.drift(c, 0);
        x.drift(c, drift);
        add(rate, emphasis, pitch, pulses, level, redundancy, bound, drift);
    }

    /** Here show the samples that wait, the memories of the encoder, the decoder and its filters, the tape. */
    private void future(int c) {
        add(x.decode(c), x.digest(c, 1), x.out(c, 3), x.out(c, 80), x.out(c, 81), x.out(c, 159));
        add(x.wave(c, 3, 45, 8000, 320), x.encode(c), x.digest(c, 0), x.feed(c, 2), x.count(c, 1), x.saturations());
        add(x.length(c, x.count(c, 1) - 1), x.byteOf(c, x.count(c, 1) - 1, 2));
        for (int place = 0; place < 4; place++) {
            add(x.stage(c, place, 0));
        }
    }
}
