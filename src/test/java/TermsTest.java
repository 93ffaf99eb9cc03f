import java.util.Arrays;

/** The sentences of 'Terms' on the cipher, the check, an association, and to seal; see OpenTest. */
public final class TermsTest {
    private static final Class<IllegalArgumentException> ARGUMENT = IllegalArgumentException.class;
    private static final Due DUE = new Due("TermsTest");
    private static final long SHORT_MOST = 4294967295L;
    private static final long[] LONG_NUMBERS = {1, 2, 255, 256, 2147483647L, 2147483648L,
        SHORT_MOST - 1, SHORT_MOST, SHORT_MOST + 1, SHORT_MOST + 2, 1L << 62,
        Long.MAX_VALUE - 1, Long.MAX_VALUE};
    private static final long[] SHORT_NUMBERS = {1, 2, 255, 256, 2147483647L, 2147483648L,
        SHORT_MOST - 1, SHORT_MOST};

    private TermsTest() {
    }

    public static void main(String[] args) {
        cipherKnownBlock();
        cipherSubOfNoneAndAll();
        cipherEveryByteOfSub();
        cipherEdgeKeysAndSalts();
        checkEveryBodyLength();
        associationNames();
        associationEveryWindow();
        associationAtFirst();
        associationNumbersGoTo();
        sealNumbers();
        sealLeastFill();
        sealNoneAndMostData();
        sealEveryNext();
        DUE.finish();
    }

    private static String hex(byte[] bytes) {
        StringBuilder s = new StringBuilder();
        for (byte b : bytes) {
            s.append(Character.forDigit(b >> 4 & 15, 16)).append(Character.forDigit(b & 15, 16));
        }
        return s.toString();
    }

    private static byte[] packetOf(GuardedPackets x) {
        byte[] packet = new byte[x.size()];
        for (int i = 0; i < packet.length; i++) {
            packet[i] = (byte) x.packet(i);
        }
        return packet;
    }

    /** A sender's packet against the document's own words and against the library's cipher. */
    private static void sealed(int name, long high, long low, int salt, boolean extended,
            long number, byte[] data) {
        GuardedPackets x = new GuardedPackets();
        x.add(name, high, low, salt, 32, extended);
        x.hurry(name, number - 1);
        for (byte b : data) {
            x.feed(1, b);
        }
        int next = data.length & 255;
        x.seal(name, next);
        byte[] key = Crypto.key(high, low);
        byte[] body = Crypto.body(data, next);
        String what = "seal by " + name + " of " + data.length + " bytes, number " + number;
        String due = hex(Literal.packet(key, name, salt, extended, number, number, body));
        DUE.text(what, hex(packetOf(x)), due);
        DUE.text(what + ", library", hex(Crypto.packet(key, name, salt, extended, number, number,
            body)), due);
    }

    private static byte[] some(int n) {
        byte[] data = new byte[n];
        for (int i = 0; i < n; i++) {
            data[i] = (byte) (201 * i + 13 * n + 7);
        }
        return data;
    }

    /** The document's cipher is the one of FIPS 197, whose appendix C.1 gives this block. */
    private static void cipherKnownBlock() {
        byte[] key = new byte[16];
        byte[] block = new byte[16];
        for (int i = 0; i < 16; i++) {
            key[i] = (byte) i;
            block[i] = (byte) (0x11 * i);
        }
        DUE.text("cipher: a known block", hex(Literal.encrypt(key, block)),
            "69c4e0d86a7b0430d8cdb78070b4c55a");
    }

    /** "c is the byte whose product with it is 1 (0 for 0)". */
    private static void cipherSubOfNoneAndAll() {
        DUE.answer("cipher: SUB of 0", Literal.sub(0), 99);
        DUE.answer("cipher: SUB of 1", Literal.sub(1), 124);
        DUE.answer("cipher: SUB of 82", Literal.sub(82), 0);
        DUE.answer("cipher: SUB of 255", Literal.sub(255), 22);
    }

    /** Each byte has gone through SUB in a packet that was compared. */
    private static void cipherEveryByteOfSub() {
        Arrays.fill(Literal.ASKED, false);
        for (int k = 1; k <= 12; k++) {
            sealed(256, k * 0x9E3779B97F4A7C15L, k * 0xC2B2AE3D27D4EB4FL, k, true, k, some(30));
        }
        for (int b = 0; b < 256; b++) {
            DUE.answer("cipher: SUB of " + b + " was needed", Literal.ASKED[b], true);
        }
    }

    /** "A KEY too (two longs, the first one's bytes first)", "a SALT of four bytes". */
    private static void cipherEdgeKeysAndSalts() {
        long[] halves = {0, 1, -1, Long.MIN_VALUE, Long.MAX_VALUE, 0x0102030405060708L};
        int[] salts = {0, 1, -1, Integer.MIN_VALUE, Integer.MAX_VALUE, 0x01020304};
        for (int i = 0; i < halves.length; i++) {
            for (long low : halves) {
                sealed(300, halves[i], low, salts[i], i % 2 == 0, 1, some(3));
            }
        }
    }

    /** "Each row gets bytes 0 up to whole blocks": all bodies, those of whole blocks among them. */
    private static void checkEveryBodyLength() {
        for (int body = 4; body <= 204; body += 4) {
            int data = Math.min(200, body - 2);
            sealed(301, Forge.HIGH, Forge.LOW, Forge.SALT, true, body, some(data));
            sealed(301, Forge.HIGH, Forge.LOW, Forge.SALT, false, body, some(data));
        }
    }

    /** "a name (256 .. 2147483647)". */
    private static void associationNames() {
        for (int name : new int[] {Integer.MIN_VALUE, -2147483647, -256, -1, 0, 1, 254, 255}) {
            GuardedPackets x = new GuardedPackets();
            DUE.thrown("association: name " + name, ARGUMENT,
                () -> x.add(name, 1, 2, 3, 32, true));
            DUE.answer("association: none behind name " + name, x.name(0), -1);
        }
        for (int name : new int[] {256, 257, 2147483646, 2147483647}) {
            GuardedPackets x = new GuardedPackets();
            DUE.answer("association: name " + name, x.add(name, 1, 2, 3, 32, true), true);
            DUE.answer("association: name(0) of " + name, x.name(0), name);
            sealed(name, 1, 2, 3, true, 1, some(1));
        }
    }

    /** "a WINDOW W (32 to 1024, 32 divides it)": every window from below to above. */
    private static void associationEveryWindow() {
        int right = 0;
        for (int w = -1100; w <= 2100; w++) {
            GuardedPackets x = new GuardedPackets();
            int window = w;
            if (w >= 32 && w <= 1024 && w % 32 == 0) {
                right++;
                DUE.answer("association: window " + w, x.add(256, 1, 2, 3, w, true), true);
                DUE.answer("association: told window " + w, x.told(256, 6), w);
            } else {
                DUE.thrown("association: window " + w, ARGUMENT,
                    () -> x.add(256, 1, 2, 3, window, true));
            }
        }
        DUE.answer("association: how many windows there are", right, 32);
        int[] far = {Integer.MIN_VALUE, Integer.MIN_VALUE + 32, Integer.MAX_VALUE, 1 << 30, 65568};
        for (int window : far) {
            GuardedPackets x = new GuardedPackets();
            DUE.thrown("association: window " + window, ARGUMENT,
                () -> x.add(256, 1, 2, 3, window, true));
        }
    }

    /** "the LAST number, 0 at first", "1000000000 at first", "the TOP T, 0 at first". */
    private static void associationAtFirst() {
        for (boolean extended : new boolean[] {true, false}) {
            GuardedPackets x = Forge.receiver(1024, extended);
            long[] due = {0, 0, 0, 0, 0, 1000000000, 1024, extended ? 1 : 0};
            for (int what = 0; what < 8; what++) {
                DUE.answer("association: told(" + what + ") at first", x.told(Forge.NAME, what),
                    due[what]);
            }
            for (int i = 0; i <= 1024; i += 64) {
                DUE.answer("association: given(" + i + ") at first", x.given(Forge.NAME, i), 0);
            }
        }
    }

    /** "Numbers go to 2^63 - 1 if it is extended, else to 2^32 - 1." */
    private static void associationNumbersGoTo() {
        GuardedPackets x = Forge.receiver(32, false);
        DUE.thrown("association: to 2^32", ARGUMENT, () -> x.hurry(Forge.NAME, SHORT_MOST + 1));
        x.hurry(Forge.NAME, SHORT_MOST - 1);
        DUE.answer("association: seal with 2^32 - 1", x.seal(Forge.NAME, 1), 36);
        DUE.answer("association: told 2^32 - 1", x.told(Forge.NAME, 0), SHORT_MOST);
        DUE.answer("association: seal with 2^32", x.seal(Forge.NAME, 1), -1);
        DUE.answer("association: told 2^32 - 1 still", x.told(Forge.NAME, 0), SHORT_MOST);
        GuardedPackets y = Forge.receiver(32, true);
        y.hurry(Forge.NAME, SHORT_MOST - 1);
        for (long number = SHORT_MOST; number <= SHORT_MOST + 2; number++) {
            DUE.answer("association: seal with " + number, y.seal(Forge.NAME, 1), 36);
            DUE.answer("association: told " + number, y.told(Forge.NAME, 0), number);
        }
        y.hurry(Forge.NAME, Long.MAX_VALUE - 1);
        DUE.answer("association: seal with 2^63 - 1", y.seal(Forge.NAME, 1), 36);
        DUE.answer("association: told 2^63 - 1", y.told(Forge.NAME, 0), Long.MAX_VALUE);
        DUE.answer("association: seal with 2^63", y.seal(Forge.NAME, 1), -1);
        DUE.answer("association: told 2^63 - 1 still", y.told(Forge.NAME, 0), Long.MAX_VALUE);
    }

    /** "four the number's lowest 32 bits, eight the number", and the check's first row. */
    private static void sealNumbers() {
        for (long number : LONG_NUMBERS) {
            sealed(Forge.NAME, Forge.HIGH, Forge.LOW, Forge.SALT, true, number, some(5));
        }
        for (long number : SHORT_NUMBERS) {
            sealed(Forge.NAME, Forge.HIGH, Forge.LOW, Forge.SALT, false, number, some(5));
        }
    }

    /** "p bytes 1, 2, .., p (the least p with which 4 divides the body)". */
    private static void sealLeastFill() {
        int[] fills = {2, 1, 0, 3};
        for (int n = 0; n <= 200; n++) {
            GuardedPackets x = Forge.receiver(32, true);
            for (int k = 0; k < n; k++) {
                x.feed(1, 200);
            }
            x.seal(Forge.NAME, 9);
            byte[] plain = Crypto.plain(Crypto.key(Forge.HIGH, Forge.LOW), Forge.SALT, 1,
                packetOf(x));
            int fill = fills[n % 4];
            DUE.answer("seal: body of " + n + " bytes", plain.length, n + fill + 2);
            DUE.answer("seal: p of " + n + " bytes", plain[n + fill], fill);
            DUE.answer("seal: NEXT behind " + n + " bytes", plain[n + fill + 1], 9);
            for (int k = 1; k <= fill; k++) {
                DUE.answer("seal: fill behind " + n + " bytes", plain[n + k - 1], k);
            }
        }
    }

    private static void sealNoneAndMostData() {
        int[] lengths = {0, 1, 2, 3, 198, 199, 200};
        int[] sizes = {36, 36, 36, 40, 232, 236, 236};
        for (int i = 0; i < lengths.length; i++) {
            GuardedPackets x = Forge.receiver(32, true);
            for (int k = 0; k < lengths[i]; k++) {
                x.feed(1, k);
            }
            DUE.answer("seal: of " + lengths[i], x.seal(Forge.NAME, 1), sizes[i]);
            sealed(Forge.NAME, 5, 6, 7, true, 1, some(lengths[i]));
            sealed(Forge.NAME, 5, 6, 7, false, 1, some(lengths[i]));
        }
    }

    /** "a byte NEXT": all of them go through, 59 alone is not answered. */
    private static void sealEveryNext() {
        for (int next = 0; next <= 255; next++) {
            GuardedPackets x = Forge.receiver(32, true);
            x.feed(1, 4);
            DUE.answer("seal: with next " + next, x.seal(Forge.NAME, next), 36);
            DUE.answer("open: of next " + next, x.open(), next == 59 ? -6 : next);
            DUE.answer("got: of next " + next, x.got(), next == 59 ? 0 : 1);
        }
    }
}
