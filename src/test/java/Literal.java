import java.io.ByteArrayOutputStream;
import java.nio.ByteBuffer;
import java.util.Arrays;

/**
 * The cipher, the check and the packet in the document's own words, step by step and without the
 * Java library's cipher: it tells whether Crypto is right in taking them for AES-128 and GCM.
 */
final class Literal {
    /** Which bytes SUB has been asked for while blocks were encrypted. */
    static final boolean[] ASKED = new boolean[256];

    private Literal() {
    }

    /** The product of two bytes modulo x^8 + x^4 + x^3 + x + 1. */
    static int product(int a, int b) {
        int wide = 0;
        for (int k = 0; k < 8; k++) {
            wide ^= (b >> k & 1) != 0 ? a << k : 0;
        }
        for (int k = 14; k >= 8; k--) {
            wide ^= (wide >> k & 1) != 0 ? 0x11B << (k - 8) : 0;
        }
        return wide;
    }

    static int sub(int b) {
        int c = 0;
        for (int other = 1; other < 256; other++) {
            c = product(b, other) == 1 ? other : c;
        }
        int value = 0;
        for (int i = 0; i < 8; i++) {
            int bit = 99 >> i;
            for (int from : new int[] {i, i + 4, i + 5, i + 6, i + 7}) {
                bit ^= c >> (from % 8);
            }
            value |= (bit & 1) << i;
        }
        return value;
    }

    private static int[][] words(byte[] key) {
        int[][] words = new int[44][4];
        for (int i = 0; i < 44; i++) {
            for (int k = 0; k < 4; k++) {
                if (i < 4) {
                    words[i][k] = key[4 * i + k] & 255;
                } else if (i % 4 != 0) {
                    words[i][k] = words[i - 4][k] ^ words[i - 1][k];
                } else {
                    words[i][k] = words[i - 4][k] ^ sub(words[i - 1][(k + 1) % 4])
                        ^ (k == 0 ? twos(i / 4 - 1) : 0);
                }
            }
        }
        return words;
    }

    /** The product of so many times the byte 2, 1 for none. */
    private static int twos(int times) {
        int value = 1;
        for (int k = 0; k < times; k++) {
            value = product(value, 2);
        }
        return value;
    }

    static byte[] encrypt(byte[] key, byte[] block) {
        int[][] words = words(key);
        int[][] columns = new int[4][4];
        for (int i = 0; i < 16; i++) {
            columns[i / 4][i % 4] = block[i] & 255 ^ words[i / 4][i % 4];
        }
        for (int r = 1; r <= 10; r++) {
            int[][] moved = moved(columns);
            for (int i = 0; i < 4; i++) {
                int[] column = r < 10 ? mixed(moved[i]) : moved[i];
                for (int k = 0; k < 4; k++) {
                    columns[i][k] = column[k] ^ words[4 * r + i][k];
                }
            }
        }
        byte[] encrypted = new byte[16];
        for (int i = 0; i < 16; i++) {
            encrypted[i] = (byte) columns[i / 4][i % 4];
        }
        return encrypted;
    }

    private static int[][] moved(int[][] columns) {
        int[][] moved = new int[4][4];
        for (int i = 0; i < 4; i++) {
            for (int k = 0; k < 4; k++) {
                ASKED[columns[i][k]] = true;
                moved[(i - k + 4) % 4][k] = sub(columns[i][k]);
            }
        }
        return moved;
    }

    private static int[] mixed(int[] column) {
        int a = column[0];
        int b = column[1];
        int c = column[2];
        int d = column[3];
        return new int[] {
            product(2, a) ^ product(3, b) ^ c ^ d,
            a ^ product(2, b) ^ product(3, c) ^ d,
            a ^ b ^ product(2, c) ^ product(3, d),
            product(3, a) ^ b ^ c ^ product(2, d),
        };
    }

    /** The coefficient of x^k, that of x^0 being the highest bit of the first byte. */
    private static boolean has(byte[] block, int k) {
        return (block[k / 8] >> (7 - k % 8) & 1) != 0;
    }

    private static byte[] blockProduct(byte[] a, byte[] b) {
        boolean[] wide = new boolean[255];
        for (int i = 0; i < 128; i++) {
            for (int k = 0; k < 128; k++) {
                wide[i + k] ^= has(a, i) && has(b, k);
            }
        }
        for (int k = 254; k >= 128; k--) {
            for (int low : new int[] {0, 1, 2, 7}) {
                wide[k - 128 + low] ^= wide[k];
            }
        }
        byte[] product = new byte[16];
        for (int k = 0; k < 128; k++) {
            product[k / 8] |= (byte) ((wide[k] ? 1 : 0) << (7 - k % 8));
        }
        return product;
    }

    static byte[] check(byte[] key, byte[] first, byte[] second) {
        ByteArrayOutputStream rows = new ByteArrayOutputStream();
        rows.writeBytes(Arrays.copyOf(first, (first.length + 15) / 16 * 16));
        rows.writeBytes(Arrays.copyOf(second, (second.length + 15) / 16 * 16));
        rows.writeBytes(ByteBuffer.allocate(16)
            .putLong(8L * first.length).putLong(8L * second.length).array());
        byte[] all = rows.toByteArray();
        byte[] factor = encrypt(key, new byte[16]);
        byte[] block = new byte[16];
        for (int i = 0; i < all.length; i += 16) {
            block = blockProduct(exclusiveOr(block, Arrays.copyOfRange(all, i, i + 16)), factor);
        }
        return block;
    }

    /** The bytes of the first row, exclusive or those of the second, which may be longer. */
    private static byte[] exclusiveOr(byte[] first, byte[] second) {
        byte[] both = first.clone();
        for (int i = 0; i < both.length; i++) {
            both[i] ^= second[i];
        }
        return both;
    }

    private static byte[] encryptedJ(byte[] key, int salt, long carried, int j) {
        return encrypt(key,
            ByteBuffer.allocate(16).putInt(salt).putLong(carried).putInt(j).array());
    }

    /** A whole packet with any body; carried are the eight bytes that go into J. */
    static byte[] packet(byte[] key, int name, int salt, boolean extended, long number,
            long carried, byte[] plain) {
        ByteArrayOutputStream masks = new ByteArrayOutputStream();
        for (int k = 0; 16 * k < plain.length; k++) {
            masks.writeBytes(encryptedJ(key, salt, carried, k + 2));
        }
        byte[] body = exclusiveOr(plain, masks.toByteArray());
        byte[] numbered = ByteBuffer.allocate(12).putInt(name).putLong(number).array();
        byte[] short8 = ByteBuffer.allocate(8).putInt(name).putInt((int) number).array();
        byte[] seal = exclusiveOr(encryptedJ(key, salt, carried, 1),
            check(key, extended ? numbered : short8, body));
        return ByteBuffer.allocate(32 + body.length)
            .putInt(name).putInt((int) number).putLong(carried).put(body).put(seal).array();
    }
}
