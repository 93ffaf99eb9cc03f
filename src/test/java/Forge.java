/** One association that tests know the key of, and packets for it that no sender would make. */
final class Forge {
    static final long HIGH = 0x0F1E2D3C4B5A6978L;
    static final long LOW = 0x8796A5B4C3D2E1F0L;
    static final int NAME = 0x00ABCDEF;
    static final int SALT = 0xFEDCBA98;
    /** The name of one more association, whose sender makes the bytes that are then spoilt. */
    static final int CARRIER = 256;
    /** NEXT of the packets that opened makes. */
    static final int NEXT = 77;

    private Forge() {
    }

    static GuardedPackets receiver(int window, boolean extended) {
        GuardedPackets x = new GuardedPackets();
        x.add(NAME, HIGH, LOW, SALT, window, extended);
        return x;
    }

    /** Makes any bytes the packet, in some ten calls more than there are bytes; wipes the data. */
    static void send(GuardedPackets x, byte[] packet) {
        x.add(CARRIER, 0, 0, 0, 32, true);
        x.wipe();
        for (int room = 36; room < packet.length; room += 8) {
            x.feed(8, 0);
        }
        x.seal(CARRIER, 0);
        x.cut(packet.length);
        for (int i = 0; i < packet.length; i++) {
            x.spoil(i, packet[i] & 255);
        }
        x.wipe();
    }

    /** A packet with a right seal for any number, eight bytes in J, and plain body. */
    static byte[] packet(boolean extended, long number, long carried, int... plain) {
        return Crypto.packet(Crypto.key(HIGH, LOW), NAME, SALT, extended, number, carried,
            bytes(plain));
    }

    static byte[] bytes(int... values) {
        byte[] bytes = new byte[values.length];
        for (int i = 0; i < values.length; i++) {
            bytes[i] = (byte) values[i];
        }
        return bytes;
    }

    /** What open answers to a packet without data, sealed with this number. */
    static int opened(GuardedPackets x, boolean extended, long number) {
        send(x, packet(extended, number, number, 1, 2, 2, NEXT));
        return x.open();
    }
}
