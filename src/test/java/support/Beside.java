/** One coder of a house, and the naive model beside it: the same calls, and all that an encoded frame shows. */
final class Beside {
    final VoiceHouse x = new VoiceHouse();
    private final Model model = new Model();

    Beside(int rate) {
        x.coder(rate);
        model.coder(rate);
    }

    Beside search(int pitch, int pulses) {
        x.search(0, 0, pitch);
        model.search(0, 0, pitch);
        x.search(0, 1, pulses);
        model.search(0, 1, pulses);
        return this;
    }

    Beside silence(int level) {
        x.silence(0, level);
        model.set("silence", 0, level, 0, 32769);
        return this;
    }

    Beside emphasis(boolean on) {
        x.emphasis(0, on);
        model.set("emphasis", 0, on ? 1 : 0, 0, 1);
        return this;
    }

    Beside rate(int rate) {
        x.rate(0, rate);
        model.set("rate", 0, rate, 0, 1);
        return this;
    }

    Beside wave(int kind, int p, int q, int n) {
        Check.due("wave()", x.wave(0, kind, p, q, n), model.wave(0, kind, p, q, n));
        return this;
    }

    Beside samples(int... values) {
        for (int v : values) {
            x.sample(0, v);
            model.sample(0, v);
        }
        return this;
    }

    /** These samples from a place of the frame on, zeros else. */
    Beside frame(int size, int from, int... values) {
        if (from > 0) {
            wave(0, 0, 0, from);
        }
        samples(values);
        if (from + values.length < size) {
            wave(0, 0, 0, size - from - values.length);
        }
        return encode();
    }

    Beside encode() {
        Check.due("encode()", x.encode(0), model.encode(0));
        for (int m = 1; m <= 8; m++) {
            Check.due("index(0, " + m + ")", x.index(0, m), model.index(0, m));
        }
        for (int part = 0; part < 4; part++) {
            for (int what = 0; what <= 6; what++) {
                Check.due("pick(0, " + part + ", " + what + ")", x.pick(0, part, what), model.pick(0, part, what));
            }
            for (int which = 0; which < 2; which++) {
                Check.due("cost(0, " + part + ", " + which + ", false)", x.cost(0, part, which, false),
                    model.cost(0, part, which, false));
            }
        }
        Check.due("digest(0, 0)", x.digest(0, 0), model.digest(0, 0));
        Check.due("saturations()", x.saturations(), model.saturations());
        return this;
    }
}
