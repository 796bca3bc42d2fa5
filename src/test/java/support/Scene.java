import java.util.function.Supplier;

/** Houses in the midst of their work, made by the same calls each time. */
final class Scene {
    static final int BUSY_CODERS = 3, BUSY_FRAMES = 4;
    static final Supplier<VoiceHouse> NEW = VoiceHouse::new, BUSY = Scene::busy, FULL_HOUSE = Scene::fullHouse,
        FULL_WAIT = Scene::fullWait, FULL_LINE = Scene::fullLine, FULL_TAPE = Scene::fullTape;

    private Scene() {
    }

    static VoiceHouse coder(int rate) {
        VoiceHouse x = new VoiceHouse();
        x.coder(rate);
        return x;
    }

    /**
     * Coder 0 has settings of its own, has encoded VOICE and decoded; 7 samples wait; in its line are a ROW of 37
     * bytes, one of 37 shorts, none, and an empty one. Coder 1 has encoded SILENCE and decoded nothing. Coder 2 is new.
     * Three bytes are on the tape, 160 samples on the bench.
     */
    private static VoiceHouse busy() {
        VoiceHouse x = new VoiceHouse();
        x.coder(0);
        x.coder(1);
        x.coder(0);
        x.emphasis(0, true);
        x.search(0, 0, 1);
        x.silence(0, 30);
        x.redundancy(0, true);
        x.join(0, 77);
        x.start(0, 65533);
        x.stage(0, 0, 1);
        x.stage(0, 1, 3);
        x.stage(0, 3, 4);
        x.wave(0, 3, 50, 9000, 320);
        x.wave(0, 4, 37, 9000, 320);
        for (int k = 0; k < 4; k++) {
            x.encode(0);
        }
        x.decode(0);
        x.shorts(0, 1);
        x.lose(0, 2);
        x.feed(0, 9);
        x.drift(0, 1);
        x.wave(0, 2, 5, 400, 7);
        x.silence(1, 32769);
        x.wave(1, 0, 300, 0, 320);
        x.encode(1);
        x.mix(0, 0, 16, 16);
        x.type(0x010203, 3);
        return x;
    }

    private static VoiceHouse fullHouse() {
        VoiceHouse x = new VoiceHouse();
        for (int c = 0; c < 8; c++) {
            x.coder(c % 2);
        }
        return x;
    }

    private static VoiceHouse fullWait() {
        VoiceHouse x = coder(0);
        x.wave(0, 3, 50, 9000, 320);
        x.wave(0, 4, 37, 9000, 320);
        return x;
    }

    /** 250 frames, 160 samples that wait, a byte on the tape. */
    private static VoiceHouse fullLine() {
        VoiceHouse x = coder(0);
        x.wave(0, 3, 50, 9000, 320);
        x.encode(0);
        for (int n = 2; n <= 250; n++) {
            x.again(0, 0);
        }
        x.type(5, 1);
        return x;
    }

    private static VoiceHouse fullTape() {
        VoiceHouse x = coder(0);
        for (int n = 0; n < 8; n++) {
            x.type(0x0102030405060708L, 8);
        }
        return x;
    }
}
