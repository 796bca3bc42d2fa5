import java.util.Arrays;

/** Boundary cases of "Terms", part 3 THE LINE: how a ROW is OPENED and READ. */
public final class OpeningEdges {
    public static void main(String[] args) {
        lost();
        store();
        copyOfTheHead();
        sum();
        sumOfShortRows();
        sizes();
        copyOfTheBody();
        copyOfTheRedundancy();
        index();
        inOrder();
        sameRow();
        sortAndRate();
        indexes();
        lagsAndPs();
        places();
        gains();
        peaks();
        whatElseFollows();
        Edge.endTerms(Document.LINE);
    }

    /** The FINDING of a row of bytes whose last one is made the SUM. */
    private static void sealed(String what, int finding, int... bytes) {
        VoiceHouse x = Scene.coder(0);
        Frames.sealed(x, 0, 0, bytes);
        found(what, finding, x);
    }

    private static void raw(String what, int finding, int... bytes) {
        VoiceHouse x = Scene.coder(0);
        Frames.raw(x, 0, 0, bytes);
        found(what, finding, x);
    }

    private static void found(String what, int finding, VoiceHouse x) {
        x.decode(0);
        Check.due("FINDING of " + what, x.finding(0), finding);
        for (int kind = 1; kind <= 7; kind++) {
            Check.due("found(" + kind + ") of " + what, x.found(kind), kind == finding ? 1 : 0);
        }
        Check.due("REPAIRED of " + what, x.count(0, 7), finding == 0 ? 0 : 1);
    }

    private static void lost() {
        Edge.of(Document.LINE, "1 LOST: no ROW.");
        VoiceHouse x = Scene.coder(0);
        x.lose(0, Frames.sealed(x, 0, 0, Frames.voice(0, 0)));
        found("a lost ROW", 1, x);
        // the same ROW lost for one frame, not for the other
        VoiceHouse y = Scene.coder(0);
        Frames.sealed(y, 0, 0, Frames.voice(0, 0));
        y.again(0, 0);
        y.lose(0, 1);
        found("the other one's loss", 0, y);
        // an empty ROW is a ROW
        raw("an empty ROW", 3);
    }

    private static void store() {
        Edge.of(Document.LINE, "2 STORE: a ROW of shorts.");
        for (int length : new int[] {0, 1, 5, 6, 35}) {
            VoiceHouse x = Scene.coder(0);
            int i = Frames.sealed(x, 0, 0, Frames.voice(0, 0));
            x.cut(0, i, length);
            x.shorts(0, i);
            found(length + " shorts", 2, x);
        }
    }

    private static void copyOfTheHead() {
        Edge.of(Document.LINE, "3 COPY: the ROW has fewer bytes than are to be copied (its last one, the SUM, may be "
            + "among them).");
        for (int length = 0; length <= 5; length++) {
            sealed(length + " bytes", 3, Arrays.copyOf(new int[] {1, 0, 28, 0, 0, 0}, length));
            raw(length + " bytes without a SUM", 3, Arrays.copyOf(new int[] {1, 0, 28, 0, 0, 0}, length));
        }
        raw("six bytes, and not their SUM", 4, 1, 0, 28, 0, 0, 0);
    }

    private static void sum() {
        Edge.of(Document.LINE, "4 SUM: another one.");
        for (int k = 0; k < 35; k++) {
            for (int mask : new int[] {1, 128, 255}) {
                VoiceHouse x = Scene.coder(0);
                Frames.sealed(x, 0, 0, Frames.voice(0, 20));
                x.damage(0, 0, k, mask);
                x.decode(0);
                Check.due("FINDING, byte " + k + " damaged by " + mask, x.finding(0), 4);
            }
        }
        // two damages of the same bits: the SUM is that of the bytes again
        VoiceHouse x = Scene.coder(0);
        Frames.sealed(x, 0, 0, Frames.voice(0, 20));
        x.damage(0, 0, 16, 2);
        x.damage(0, 0, 17, 2);
        found("two damages that undo one another in the SUM", 0, x);
        // the SUM is the ROW's last byte, wherever HEAD, BODY and REDUNDANCY end
        sealed("a ROW with bytes behind", 0, Arrays.copyOf(Frames.voice(0, 20), 64));
    }

    /** Six bytes: the sixth is the SUM and tells of the REDUNDANCY. 1 ^ 165 is 164, below 0; 165 ^ 165 is 0. */
    private static void sumOfShortRows() {
        Edge.of(Document.LINE, "its SUM is held against its bytes;");
        sealed("REDUNDANCY of -92 by the SUM", 5, 1, 0, 0, 0, 0, 0);
        sealed("REDUNDANCY of 0 by the SUM, no BODY", 6, 165, 0, 0, 0, 0, 0);
        sealed("REDUNDANCY of 1 by the SUM, none there", 3, 164, 0, 0, 0, 0, 0);
    }

    private static void sizes() {
        Edge.of(Document.LINE, "5 SIZE: one below 0.");
        for (int size : new int[] {128, 129, 254, 255}) {
            sealed("a BODY of " + (size - 256), 5, Frames.with(Frames.voice(0, 0), 2, size));
            sealed("REDUNDANCY of " + (size - 256), 5, Frames.with(Frames.voice(0, 0), 5, size));
        }
        sealed("a BODY of 127", 3, Frames.with(Arrays.copyOf(Frames.voice(0, 0), 64), 2, 127));
        sealed("REDUNDANCY of 127", 3, Frames.with(Arrays.copyOf(Frames.voice(0, 0), 64), 5, 127));
        sealed("REDUNDANCY of 0", 0, Frames.with(Frames.voice(0, 0), 5, 0));
        sealed("a BODY of 0", 6, Frames.with(Frames.voice(0, 0), 2, 0));
        sealed("a BODY of 0 of SILENCE", 6, Frames.with(Frames.silence(0, 5), 2, 0));
    }

    private static void copyOfTheBody() {
        Edge.of(Document.LINE, "a BODY of as many bytes as the HEAD tells (a byte with its sign) is made, and copied;");
        // 35 bytes: 6 and 29, the SUM among them
        sealed("a BODY to the SUM", 0, Frames.with(Frames.voice(0, 0), 2, 28));
        sealed("a BODY with the SUM", 0, Frames.with(Frames.voice(0, 0), 2, 29));
        sealed("a BODY of one more", 3, Frames.with(Frames.voice(0, 0), 2, 30));
        sealed("28 bytes, the SUM is the last", 0, Arrays.copyOf(Frames.voice(0, 0), 34));
        sealed("27 bytes of 28", 3, Arrays.copyOf(Frames.voice(0, 0), 33));
        sealed("two bytes of SILENCE, the SUM is the second", 0, Arrays.copyOf(Frames.silence(0, 5), 8));
        sealed("one byte of two", 3, Arrays.copyOf(Frames.silence(0, 5), 7));
        sealed("none of two", 3, Arrays.copyOf(Frames.silence(0, 5), 6));
    }

    private static void copyOfTheRedundancy() {
        Edge.of(Document.LINE, "REDUNDANCY likewise; then the BODY is read.");
        sealed("REDUNDANCY of 1, the SUM", 0, Frames.with(Frames.voice(0, 0), 5, 1));
        sealed("REDUNDANCY of 2, and one is there", 3, Frames.with(Frames.voice(0, 0), 5, 2));
        sealed("REDUNDANCY of 2", 0, Frames.with(Arrays.copyOf(Frames.voice(0, 0), 37), 5, 2));
        sealed("REDUNDANCY of 3, the SUM among them", 0, Frames.with(Arrays.copyOf(Frames.voice(0, 0), 37), 5, 3));
        sealed("REDUNDANCY of 4, three are there", 3, Frames.with(Arrays.copyOf(Frames.voice(0, 0), 37), 5, 4));
        sealed("a BODY with the SUM, REDUNDANCY of 1", 3, Frames.with(Frames.voice(0, 0), 2, 29, 5, 1));
        sealed("a BODY with the SUM, no REDUNDANCY", 0, Frames.with(Frames.voice(0, 0), 2, 29, 5, 0));
    }

    private static void index() {
        Edge.of(Document.LINE, "6 INDEX: a byte is read that the BODY has not.");
        for (int body : new int[] {0, 1, 2, 8, 27}) {
            sealed("a BODY of " + body, 6, Frames.with(Frames.voice(0, 0), 2, body));
        }
        sealed("a BODY of 28", 0, Frames.with(Frames.voice(0, 0), 2, 28));
        for (int body = 0; body <= 1; body++) {
            sealed("a BODY of " + body + " of SILENCE", 6, Frames.with(Frames.silence(0, 5), 2, body));
        }
        sealed("a BODY of 2 of SILENCE", 0, Frames.silence(0, 5));
        sealed("a BODY of 3 of SILENCE, the SUM among them", 0, Frames.with(Frames.silence(0, 5), 2, 3));
        sealed("a BODY of 27 of SILENCE", 0, Frames.with(Frames.voice(0, 0), 0, 2, 2, 27));
    }

    private static void inOrder() {
        Edge.of(Document.LINE, "FINDINGS, the first one that is met so:");
        raw("no HEAD, no SUM", 3, 1, 0, 128, 0, 0);
        raw("no SUM, a BODY below 0", 4, Frames.with(Frames.voice(0, 0), 2, 128));
        raw("no SUM, a BODY too long", 4, Frames.with(Frames.voice(0, 0), 2, 127));
        sealed("a BODY below 0, REDUNDANCY below 0", 5, Frames.with(Frames.voice(0, 0), 2, 128, 5, 128));
        sealed("a BODY too long, REDUNDANCY below 0", 3, Frames.with(Frames.voice(0, 0), 2, 127, 5, 128));
        sealed("a BODY below 0, REDUNDANCY too long", 5, Frames.with(Frames.voice(0, 0), 2, 255, 5, 127));
        sealed("REDUNDANCY below 0, a BODY too short to read", 5, Frames.with(Frames.voice(0, 0), 2, 27, 5, 255));
        sealed("REDUNDANCY too long, a BODY too short to read", 3, Frames.with(Frames.voice(0, 0), 2, 27, 5, 127));
    }

    private static void sameRow() {
        Edge.of(Document.LINE, "several frames may have the same ROW.");
        VoiceHouse x = Scene.coder(0);
        Frames.sealed(x, 0, 0, Frames.voice(0, 20));
        for (int n = 0; n < 3; n++) {
            x.again(0, 0);
        }
        x.damage(0, 3, 9, 1);
        Edge.due(x, x.byteOf(0, 3, 9), "byteOf", 0, 0, 9);
        found("a ROW damaged by way of another frame", 4, x);
        VoiceHouse y = Scene.coder(0);
        Frames.sealed(y, 0, 0, Frames.voice(0, 20));
        y.again(0, 0);
        y.cut(0, 1, 5);
        y.shorts(0, 1);
        found("a ROW that another frame had before it was cut", 0, y);
    }

    private static void sortAndRate() {
        Edge.of(Document.LINE, "READ: SORT is VOICE, if its lowest bit is 1, else SILENCE; RATE its lowest bit.");
        for (int b : new int[] {0, 1, 2, 3, 127, 128, 254, 255}) {
            VoiceHouse x = Scene.coder(0);
            Frames.sealed(x, 0, 0, Frames.with(Frames.voice(0, 20), 0, b));
            Edge.due(x, 160, "decode", 0);
            Edge.due(x, b % 2 == 1 ? 0 : 1, "repair", 0);
            for (int sort = 1; sort <= 2; sort++) {
                VoiceHouse y = Scene.coder(1 - b % 2);
                Frames.sealed(y, 0, 0, Frames.with(Frames.voice(0, 20), 0, sort, 1, b));
                Edge.due(y, b % 2 == 1 ? 320 : 160, "decode", 0);
            }
        }
    }

    private static void indexes() {
        Edge.of(Document.LINE, "INDEXES: the lowest six bits less 32 (-32 counts as -31);");
        int[] bytes = {0, 1, 2, 31, 32, 33, 62, 63, 64, 65, 127, 128, 191, 192, 255};
        int[] want = {-31, -31, -30, -1, 0, 1, 30, 31, -31, -31, 31, -31, 31, -31, 31};
        for (int n = 0; n < bytes.length; n++) {
            VoiceHouse x = Scene.coder(0);
            int m = n % 8;
            Frames.sealed(x, 0, 0, Frames.with(Frames.voice(0, 20), 6 + m, bytes[n]));
            x.decode(0);
            for (int k = 0; k < 8; k++) {
                Edge.due(x, k == m ? want[n] : 0, "state", 0, 1, 2, k);
            }
        }
    }

    private static void lagsAndPs() {
        Edge.of(Document.LINE, "of PARTS: lag 20 and the lowest seven bits; p the lowest three;");
        int[] bytes = {0, 1, 126, 127, 128, 255};
        int[] want = {20, 21, 146, 147, 20, 147};
        for (int n = 0; n < bytes.length; n++) {
            VoiceHouse x = Scene.coder(0);
            Frames.sealed(x, 0, 0, Frames.with(Frames.voice(0, 20), 14, 99, 29, bytes[n]));
            x.decode(0);
            Edge.due(x, want[n], "state", 0, 1, 3, 0);
        }
        // 1024 is 40 before; p of 32 is 5 p parts of it
        int[] ps = {0, 1, 6, 7, 8, 9, 248, 255};
        for (int p : ps) {
            VoiceHouse x = Scene.coder(0);
            Frames.sealed(x, 0, 0, Frames.with(Frames.voice(0, 20), 33, 32));
            x.decode(0);
            Frames.sealed(x, 0, 1, Frames.with(Frames.voice(38, 38), 14, 20, 15, p));
            x.decode(0);
            Edge.due(x, 5 * (p % 8) * 32, "out", 0, 0);
        }
    }

    private static void places() {
        Edge.of(Document.LINE, "a place: with b without sign, 2 ((b / 2) modulo (SUB / 2)), of the odd one 1 more, "
            + "SIGN the lowest bit;");
        int[] bytes = {0, 1, 2, 38, 39, 40, 41, 78, 79, 80, 81, 127, 128, 158, 159, 160, 254, 255};
        for (int rate = 0; rate < 2; rate++) {
            int sub = 40 + 40 * rate;
            for (int b : bytes) {
                int place = b - b % 2;
                while (place >= sub) {
                    place -= sub;
                }
                // the even pulse by that byte, beside an odd one that is far away, then the other way round
                VoiceHouse x = Scene.coder(0);
                int away = place < 20 ? 30 : 10;
                Frames.sealed(x, 0, 0, Frames.with(Frames.voice(b, away), 1, rate));
                x.decode(0);
                Edge.due(x, b % 2 == 0 ? 4 : -4, "out", 0, place);
                VoiceHouse y = Scene.coder(0);
                Frames.sealed(y, 0, 0, Frames.with(Frames.voice(away, b), 1, rate));
                y.decode(0);
                Edge.due(y, b % 2 == 0 ? 4 : -4, "out", 0, place + 1);
                Edge.due(y, 4, "out", 0, away);
            }
        }
    }

    private static void gains() {
        Edge.of(Document.LINE, "j the lowest six bits, 51 at most.");
        int[] bytes = {0, 1, 3, 4, 50, 51, 52, 63, 64, 115, 128, 179, 180, 192, 255};
        int[] want = {4, 5, 7, 8, 24576, 28672, 28672, 28672, 4, 28672, 4, 28672, 28672, 4, 28672};
        for (int n = 0; n < bytes.length; n++) {
            VoiceHouse x = Scene.coder(0);
            Frames.sealed(x, 0, 0, Frames.with(Frames.voice(0, 20), 18, bytes[n]));
            x.decode(0);
            Edge.due(x, want[n], "out", 0, 0);
        }
    }

    /** From LABEL 0 the first DRAW is -128: half of PEAK, downwards. */
    private static void peaks() {
        Edge.of(Document.LINE, "Of SILENCE two bytes, PEAK.");
        for (int peak : new int[] {0, 1, 2, 127, 128, 255, 256, 32767, 32768, 65280, 65535}) {
            VoiceHouse x = Scene.coder(0);
            Frames.sealed(x, 0, 0, Frames.silence(0, peak));
            x.decode(0);
            Edge.due(x, -(peak + 1) / 2, "out", 0, 0);
            Edge.due(x, Math.floorDiv(92 * peak, 256), "out", 0, 1);
            Edge.due(x, 0, "saturations");
        }
    }

    private static void whatElseFollows() {
        Edge.of(Document.LINE, "(What else follows is not looked at.)");
        int[] row = Frames.voice(4, 10);
        VoiceHouse plain = Scene.coder(0);
        Frames.sealed(plain, 0, 0, row);
        plain.decode(0);
        // other NUMBERS, more BODY, some REDUNDANCY, and bytes behind
        int[][] others = {Frames.with(row, 3, 255, 4, 255), Frames.with(Arrays.copyOf(row, 64), 40, 77, 62, 99),
            Frames.with(Arrays.copyOf(row, 50), 2, 40, 34, 9, 45, 200),
            Frames.with(Arrays.copyOf(row, 50), 5, 15, 34, 9, 48, 200)};
        for (int[] other : others) {
            VoiceHouse x = Scene.coder(0);
            Frames.sealed(x, 0, 0, other);
            x.decode(0);
            Edge.due(x, 0, "finding", 0);
            Edge.due(x, plain.digest(0, 1), "digest", 0, 1);
            Edge.due(x, 4, "out", 0, 4);
        }
        VoiceHouse x = Scene.coder(0);
        Frames.sealed(x, 0, 0, Frames.with(Frames.voice(77, 78), 0, 2, 6, 1, 7, 0));
        x.decode(0);
        Edge.due(x, -128, "out", 0, 0);
        Edge.due(x, 1, "repair", 0);
    }
}
