import java.io.ByteArrayOutputStream;
import java.nio.ByteBuffer;
import java.security.GeneralSecurityException;
import java.util.Arrays;
import javax.crypto.Cipher;
import javax.crypto.spec.GCMParameterSpec;
import javax.crypto.spec.IvParameterSpec;
import javax.crypto.spec.SecretKeySpec;

/**
 * Packets made with the Java library's own cipher (the document's cipher and check are AES-128 and
 * GCM), so that the class under test is not measured by itself.
 */
final class Crypto {
    private Crypto() {
    }

    /** The data with the least fill, the byte p and NEXT. */
    static byte[] body(byte[] data, int next) {
        int fill = 0;
        while ((data.length + fill + 2) % 4 != 0) {
            fill++;
        }
        ByteArrayOutputStream out = new ByteArrayOutputStream();
        out.writeBytes(data);
        for (int k = 1; k <= fill; k++) {
            out.write(k);
        }
        out.write(fill);
        out.write(next);
        return out.toByteArray();
    }

    static byte[] key(long high, long low) {
        return ByteBuffer.allocate(16).putLong(high).putLong(low).array();
    }

    /** A whole packet with any body; carried are the eight bytes behind the lowest 32 bits. */
    static byte[] packet(byte[] key, int name, int salt, boolean extended, long number,
            long carried, byte[] plain) {
        byte[] sealed = sealed(key, name, salt, extended, number, carried, plain);
        return ByteBuffer.allocate(16 + sealed.length)
            .putInt(name).putInt((int) number).putLong(carried).put(sealed).array();
    }

    /** The encrypted body and the seal behind it. */
    static byte[] sealed(byte[] key, int name, int salt, boolean extended, long number,
            long carried, byte[] plain) {
        byte[] iv = ByteBuffer.allocate(12).putInt(salt).putLong(carried).array();
        ByteBuffer first = ByteBuffer.allocate(extended ? 12 : 8).putInt(name);
        if (extended) {
            first.putLong(number);
        } else {
            first.putInt((int) number);
        }
        try {
            Cipher cipher = Cipher.getInstance("AES/GCM/NoPadding");
            cipher.init(Cipher.ENCRYPT_MODE, new SecretKeySpec(key, "AES"),
                new GCMParameterSpec(128, iv));
            cipher.updateAAD(first.array());
            return cipher.doFinal(plain);
        } catch (GeneralSecurityException e) {
            throw new AssertionError(e);
        }
    }

    /** An encrypted body made plain, whether its seal is right or not. */
    static byte[] plain(byte[] key, int salt, long carried, byte[] packet) {
        byte[] counter = ByteBuffer.allocate(16).putInt(salt).putLong(carried).putInt(2).array();
        try {
            Cipher cipher = Cipher.getInstance("AES/CTR/NoPadding");
            cipher.init(Cipher.DECRYPT_MODE, new SecretKeySpec(key, "AES"),
                new IvParameterSpec(counter));
            return cipher.doFinal(Arrays.copyOfRange(packet, 16, packet.length - 16));
        } catch (GeneralSecurityException e) {
            throw new AssertionError(e);
        }
    }

    /** Eight bytes from i on, the first one the lowest, 0 for those that are not there. */
    static long eight(byte[] bytes, int i) {
        long value = 0;
        for (long at = (long) i + 7; at >= i; at--) {
            value <<= 8;
            if (at >= 0 && at < bytes.length) {
                value |= bytes[(int) at] & 255;
            }
        }
        return value;
    }
}
