/** Promises 9 to 14: the packet, spoilt, cut, kept and brought. */
public final class PacketTest {
    private static final Class<IllegalArgumentException> ARGUMENT = IllegalArgumentException.class;
    private static final Class<IndexOutOfBoundsException> BOUNDS = IndexOutOfBoundsException.class;
    private static final Due DUE = new Due("PacketTest");

    private PacketTest() {
    }

    public static void main(String[] args) {
        promise9Size();
        promise10Packet();
        promise11Spoil();
        promise11WrongSpoils();
        promise12Cut();
        promise12WrongCuts();
        promise13Keep();
        promise13LongestPacket();
        promise13NoPacket();
        promise14Bring();
        promise14WrongPlaces();
        DUE.finish();
    }

    /** An object with a packet of 40 bytes. */
    private static GuardedPackets sealed() {
        GuardedPackets x = SenderTest.with(0x01020304, 32, true);
        x.feed(4, 0x04030201);
        x.seal(0x01020304, 9);
        return x;
    }

    private static void promise9Size() {
        GuardedPackets x = SenderTest.with(256, 32, true);
        DUE.answer("9: size() of none", x.size(), 0);
        int[] due = {36, 36, 36, 40, 40, 40, 40, 44};
        for (int n = 0; n < due.length; n++) {
            x.seal(256, 1);
            DUE.answer("9: size() with " + n + " bytes", x.size(), due[n]);
            x.feed(1, 0);
        }
        x.wipe();
        DUE.answer("9: size() stays", x.size(), 44);
        x.cut(7);
        DUE.answer("9: size() when cut", x.size(), 7);
        x.cut(0);
        DUE.answer("9: size() when cut to nothing", x.size(), 0);
    }

    private static void promise10Packet() {
        GuardedPackets x = sealed();
        byte[] due = Crypto.packet(Crypto.key(1, 2), 0x01020304, 3, true, 1, 1,
            Crypto.body(new byte[] {1, 2, 3, 4}, 9));
        for (int i = -12; i <= 44; i++) {
            DUE.answer("10: packet(" + i + ")", x.packet(i), Crypto.eight(due, i));
        }
        DUE.answer("10: packet(0)", x.packet(0), 0x0100000004030201L);
        DUE.answer("10: packet(-4)", x.packet(-4), 0x0403020100000000L);
        int[] far = {Integer.MIN_VALUE, Integer.MIN_VALUE + 7, -8, 40, 240, 1000,
            Integer.MAX_VALUE - 7, Integer.MAX_VALUE - 1, Integer.MAX_VALUE};
        for (int i : far) {
            DUE.answer("10: packet(" + i + ")", x.packet(i), 0);
        }
        x.cut(3);
        DUE.answer("10: packet(0), when cut", x.packet(0), 0x030201);
    }

    private static void promise11Spoil() {
        GuardedPackets x = sealed();
        for (int i = 0; i < 40; i++) {
            int before = (int) (x.packet(i) & 255);
            long others = x.packet(i + 1);
            DUE.answer("11: spoil(" + i + ", 255)", x.spoil(i, 255), before);
            DUE.answer("11: spoil(" + i + ", 0)", x.spoil(i, 0), 255);
            DUE.answer("11: spoil(" + i + ", 128)", x.spoil(i, 128), 0);
            DUE.answer("11: byte " + i, x.packet(i) & 255, 128);
            DUE.answer("11: the others", x.packet(i + 1), others);
        }
    }

    private static void promise11WrongSpoils() {
        GuardedPackets x = sealed();
        long before = x.packet(0);
        for (int i : new int[] {-1, 40, Integer.MAX_VALUE, Integer.MIN_VALUE}) {
            DUE.thrown("11: spoil(" + i + ", 0)", BOUNDS, () -> x.spoil(i, 0));
            DUE.thrown("11: spoil(" + i + ", 256)", BOUNDS, () -> x.spoil(i, 256));
        }
        for (int v : new int[] {-1, 256, Integer.MAX_VALUE, Integer.MIN_VALUE}) {
            DUE.thrown("11: spoil(0, " + v + ")", ARGUMENT, () -> x.spoil(0, v));
        }
        DUE.answer("11: packet(0) stays", x.packet(0), before);
        x.cut(10);
        DUE.thrown("11: spoil(10, 0), when cut", BOUNDS, () -> x.spoil(10, 0));
    }

    private static void promise12Cut() {
        GuardedPackets x = sealed();
        x.cut(40);
        DUE.answer("12: size() when cut to all", x.size(), 40);
        long before = x.packet(0);
        x.cut(39);
        DUE.answer("12: size()", x.size(), 39);
        DUE.answer("12: packet(39)", x.packet(39), 0);
        DUE.answer("12: packet(0) stays", x.packet(0), before);
        x.cut(0);
        DUE.answer("12: size() of no bytes", x.size(), 0);
        DUE.answer("12: packet(0) of no bytes", x.packet(0), 0);
        DUE.passes("12: cut(0) again", () -> x.cut(0));
    }

    private static void promise12WrongCuts() {
        GuardedPackets x = sealed();
        for (int n : new int[] {-1, 41, Integer.MAX_VALUE, Integer.MIN_VALUE}) {
            DUE.thrown("12: cut(" + n + ")", ARGUMENT, () -> x.cut(n));
        }
        DUE.answer("12: size() stays", x.size(), 40);
        x.cut(20);
        DUE.thrown("12: cut(21), what was cut off", ARGUMENT, () -> x.cut(21));
        GuardedPackets y = new GuardedPackets();
        DUE.passes("12: cut(0) of none", () -> y.cut(0));
        DUE.thrown("12: cut(1) of none", ARGUMENT, () -> y.cut(1));
    }

    private static void promise13Keep() {
        GuardedPackets x = sealed();
        long first = x.packet(16);
        for (int place = 0; place < 8; place++) {
            x.cut(39 - place);
            x.keep(place);
        }
        for (int place = 7; place >= 0; place--) {
            DUE.answer("13: bring(" + place + ")", x.bring(place), 39 - place);
            DUE.answer("13: its bytes", x.packet(16), first);
        }
        x.spoil(16, 0);
        x.spoil(16, 1);
        x.bring(1);
        DUE.answer("13: what is kept is not spoilt", x.packet(16), first);
        x.cut(0);
        x.keep(1);
        DUE.answer("13: kept in place of what was there", x.bring(1), 0);
        DUE.answer("13: size() of no bytes", x.size(), 0);
        DUE.answer("13: the place beside it", x.bring(2), 37);
        for (int place : new int[] {-1, 8, Integer.MAX_VALUE, Integer.MIN_VALUE}) {
            DUE.thrown("13: keep(" + place + ")", BOUNDS, () -> x.keep(place));
        }
    }

    private static void promise13LongestPacket() {
        GuardedPackets x = SenderTest.with(256, 32, true);
        for (int k = 0; k < 25; k++) {
            x.feed(8, k);
        }
        x.seal(256, 1);
        long end = x.packet(228);
        x.keep(7);
        x.wipe();
        x.seal(256, 2);
        DUE.answer("13: bring of 236 bytes", x.bring(7), 236);
        DUE.answer("13: their end", x.packet(228), end);
        DUE.answer("13: open() of it", x.open(), 1);
    }

    private static void promise13NoPacket() {
        GuardedPackets x = SenderTest.with(256, 32, true);
        x.keep(0);
        x.cut(0);
        x.keep(1);
        DUE.answer("13: where no packet was kept", x.bring(0), -1);
        DUE.answer("13: where no packet was kept, cut", x.bring(1), -1);
        DUE.thrown("13: keep(8) of none", BOUNDS, () -> x.keep(8));
        x.seal(256, 1);
        x.keep(0);
        DUE.answer("13: where a packet is kept now", x.bring(0), 36);
    }

    private static void promise14Bring() {
        GuardedPackets x = sealed();
        x.keep(3);
        long first = x.packet(16);
        x.wipe();
        x.seal(0x01020304, 10);
        DUE.answer("14: bring of nothing", x.bring(2), -1);
        DUE.answer("14: size() stays", x.size(), 36);
        DUE.answer("14: bring(3)", x.bring(3), 40);
        DUE.answer("14: size()", x.size(), 40);
        DUE.answer("14: its bytes", x.packet(16), first);
        x.spoil(16, 1);
        x.cut(1);
        DUE.answer("14: bring(3), it stays there", x.bring(3), 40);
        DUE.answer("14: its bytes, once more", x.packet(16), first);
        DUE.answer("14: open()", x.open(), 9);
        x.drop(0x01020304);
        DUE.answer("14: bring(3) without the association", x.bring(3), 40);
        DUE.answer("14: open() without the association", x.open(), -2);
    }

    private static void promise14WrongPlaces() {
        GuardedPackets x = sealed();
        for (int place : new int[] {-1, 8, Integer.MAX_VALUE, Integer.MIN_VALUE}) {
            DUE.thrown("14: bring(" + place + ")", BOUNDS, () -> x.bring(place));
        }
        DUE.answer("14: size() stays", x.size(), 40);
    }
}
