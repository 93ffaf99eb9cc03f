import java.math.BigInteger;
import java.nio.ByteBuffer;
import java.util.Arrays;
import java.util.HashSet;
import java.util.Set;
import java.util.TreeMap;

/** The document once more, in the widest means of the Java library, to compare the class with. */
final class Model {
    private static final BigInteger TWO_32 = BigInteger.ONE.shiftLeft(32);

    static final class Entry {
        int name;
        byte[] key;
        int salt;
        int window;
        boolean extended;
        long last = 0;
        int life = 1000000000;
        long top = 0;
        long stale = 0;
        long wrong = 0;
        final Set<Long> given = new HashSet<>();

        BigInteger greatest() {
            return extended ? BigInteger.valueOf(Long.MAX_VALUE) : TWO_32.subtract(BigInteger.ONE);
        }

        /** Counted up from the least number that it may be, without any wrap-around. */
        BigInteger number(int lowest) {
            BigInteger low = BigInteger.valueOf(lowest & 0xFFFFFFFFL);
            if (!extended) {
                return low;
            }
            BigInteger least = BigInteger.valueOf(top).subtract(BigInteger.valueOf(window - 1));
            return least.add(low.subtract(least).mod(TWO_32));
        }
    }

    final TreeMap<Integer, Entry> entries = new TreeMap<>();
    byte[] data = new byte[0];
    byte[] packet = null;
    final byte[][] kept = new byte[8][];
    byte[] got = new byte[0];

    boolean add(int name, long high, long low, int salt, int window, boolean extended) {
        if (name < 256 || window < 32 || window > 1024 || window % 32 != 0) {
            throw new IllegalArgumentException();
        }
        if (entries.size() >= 16 || entries.containsKey(name)) {
            return false;
        }
        Entry e = new Entry();
        e.name = name;
        e.key = Crypto.key(high, low);
        e.salt = salt;
        e.window = window;
        e.extended = extended;
        entries.put(name, e);
        return true;
    }

    boolean drop(int name) {
        return entries.remove(name) != null;
    }

    Entry entry(int name) {
        Entry e = entries.get(name);
        if (e == null) {
            throw new IllegalStateException();
        }
        return e;
    }

    void hurry(int name, long last) {
        Entry e = entry(name);
        if (last < e.last || BigInteger.valueOf(last).compareTo(e.greatest()) > 0) {
            throw new IllegalArgumentException();
        }
        e.last = last;
    }

    int life(int name, int bytes) {
        Entry e = entry(name);
        if (bytes < 0) {
            throw new IllegalArgumentException();
        }
        int before = e.life;
        e.life = bytes;
        return before;
    }

    int feed(int n, long bytes) {
        if (n < 1 || n > 8) {
            throw new IllegalArgumentException();
        }
        if (data.length + n > 200) {
            return -1;
        }
        int from = data.length;
        data = Arrays.copyOf(data, from + n);
        for (int k = 0; k < n; k++) {
            data[from + k] = (byte) (bytes >> (8 * k));
        }
        return data.length;
    }

    int wipe() {
        int before = data.length;
        data = new byte[0];
        return before;
    }

    int seal(int name, int next) {
        Entry e = entry(name);
        if (next < 0 || next > 255) {
            throw new IllegalArgumentException();
        }
        if (BigInteger.valueOf(e.last).equals(e.greatest()) || data.length > e.life) {
            return -1;
        }
        e.last++;
        e.life -= data.length;
        packet = Crypto.packet(e.key, name, e.salt, e.extended, e.last, e.last,
            Crypto.body(data, next));
        return packet.length;
    }

    int size() {
        return packet == null ? 0 : packet.length;
    }

    long packet(int i) {
        return packet == null ? 0 : Crypto.eight(packet, i);
    }

    int spoil(int i, int v) {
        if (i < 0 || i >= size()) {
            throw new IndexOutOfBoundsException();
        }
        if (v < 0 || v > 255) {
            throw new IllegalArgumentException();
        }
        int before = packet[i] & 255;
        packet[i] = (byte) v;
        return before;
    }

    void cut(int n) {
        if (n < 0 || n > size()) {
            throw new IllegalArgumentException();
        }
        if (packet != null) {
            packet = Arrays.copyOf(packet, n);
        }
    }

    void keep(int place) {
        if (place < 0 || place > 7) {
            throw new IndexOutOfBoundsException();
        }
        kept[place] = packet == null ? null : packet.clone();
    }

    int bring(int place) {
        if (place < 0 || place > 7) {
            throw new IndexOutOfBoundsException();
        }
        if (kept[place] == null) {
            return -1;
        }
        packet = kept[place].clone();
        return packet.length;
    }

    int open() {
        if (size() < 36 || size() % 4 != 0) {
            return -1;
        }
        ByteBuffer in = ByteBuffer.wrap(packet);
        Entry e = entries.get(in.getInt(0));
        if (e == null) {
            return -2;
        }
        BigInteger wide = e.number(in.getInt(4));
        BigInteger below = BigInteger.valueOf(e.top - e.window);
        if (wide.signum() < 1 || wide.compareTo(e.greatest()) > 0 || wide.compareTo(below) <= 0
                || e.given.contains(wide.longValueExact())) {
            e.stale++;
            return -3;
        }
        long number = wide.longValueExact();
        long carried = in.getLong(8);
        byte[] plain = Crypto.plain(e.key, e.salt, carried, packet);
        byte[] right = Crypto.sealed(e.key, e.name, e.salt, e.extended, number, carried, plain);
        if (!Arrays.equals(right, Arrays.copyOfRange(packet, 16, packet.length))) {
            e.wrong++;
            return -4;
        }
        e.given.add(number);
        e.top = Math.max(e.top, number);
        return unpack(plain);
    }

    private int unpack(byte[] plain) {
        int fill = plain[plain.length - 2] & 255;
        int next = plain[plain.length - 1] & 255;
        got = new byte[0];
        if (fill > plain.length - 2) {
            return -5;
        }
        int from = plain.length - 2 - fill;
        for (int k = 1; k <= fill; k++) {
            if (plain[from + k - 1] != (byte) k) {
                return -5;
            }
        }
        if (next == 59) {
            return -6;
        }
        got = Arrays.copyOf(plain, from);
        return next;
    }

    int got() {
        return got.length;
    }

    long data(int i) {
        return Crypto.eight(got, i);
    }

    long told(int name, int what) {
        Entry e = entry(name);
        if (what < 0 || what > 7) {
            throw new IllegalArgumentException();
        }
        long[] all = {e.last, e.top, e.given.size(), e.stale, e.wrong, e.life, e.window,
            e.extended ? 1 : 0};
        return all[what];
    }

    long given(int name, int i) {
        Entry e = entry(name);
        if (i < 0) {
            throw new IllegalArgumentException();
        }
        long bits = 0;
        for (int k = 0; k < 64; k++) {
            long number = e.top - i - k;
            if (number > e.top - e.window && e.given.contains(number)) {
                bits |= 1L << k;
            }
        }
        return bits;
    }

    int name(int i) {
        if (i < 0 || i >= entries.size()) {
            return -1;
        }
        return entries.keySet().stream().mapToInt(Integer::intValue).toArray()[i];
    }
}
