import java.util.Arrays;

/** Promises 15 to 20: opening, what was got, and what is told of associations. */
public final class ReceiverTest {
    private static final Class<IllegalArgumentException> ARGUMENT = IllegalArgumentException.class;
    private static final Class<IllegalStateException> STATE = IllegalStateException.class;
    private static final Due DUE = new Due("ReceiverTest");
    private static final int NAME = Forge.NAME;

    private ReceiverTest() {
    }

    public static void main(String[] args) {
        promise15Shape();
        promise15UnknownName();
        promise15OnceAlone();
        promise15EverySpoiltBit();
        promise15ShortWindow();
        promise15WindowEdges();
        promise15ShortNumbers();
        promise15LongNumbers();
        promise15CarriedBytes();
        promise15Fill();
        promise15WrongFillAndDummy();
        promise15OrderOfFaults();
        promise16EveryLength();
        promise16And17Got();
        promise18Told();
        promise19Given();
        promise19WideWindow();
        promise20Name();
        DUE.finish();
    }

    private static void promise15Shape() {
        GuardedPackets x = Forge.receiver(32, true);
        for (int n = 0; n < 3; n++) {
            x.feed(8, n);
        }
        int size = x.seal(NAME, 3);
        x.keep(0);
        for (int n = size - 1; n >= 0; n--) {
            x.cut(n);
            int due = n < 36 || n % 4 != 0 ? -1 : -4;
            DUE.answer("15: open() with " + n + " bytes", x.open(), due);
            DUE.answer("15: size() stays", x.size(), n);
        }
        DUE.answer("15: how often it was -4", x.told(NAME, 4), 6);
        DUE.answer("15: how often it was -3", x.told(NAME, 3), 0);
        x.bring(0);
        DUE.answer("15: open() of the whole packet", x.open(), 3);
    }

    private static void promise15UnknownName() {
        GuardedPackets x = Forge.receiver(32, true);
        x.add(NAME + 1, Forge.HIGH, Forge.LOW, Forge.SALT, 32, true);
        x.seal(NAME, 3);
        x.spoil(0, 255);
        DUE.answer("15: open() with a name below 0", x.open(), -2);
        x.spoil(0, 0);
        x.spoil(3, (NAME + 2) & 255);
        DUE.answer("15: open() with no such name", x.open(), -2);
        x.spoil(3, (NAME + 1) & 255);
        DUE.answer("15: open() with another one's name", x.open(), -4);
        DUE.answer("15: the other one's -4", x.told(NAME + 1, 4), 1);
        x.spoil(3, NAME & 255);
        DUE.answer("15: open() with the right name", x.open(), 3);
        DUE.answer("15: the right one's -4", x.told(NAME, 4), 0);
    }

    private static void promise15OnceAlone() {
        for (boolean extended : new boolean[] {true, false}) {
            GuardedPackets x = Forge.receiver(32, extended);
            x.feed(2, 0x0201);
            for (int next : new int[] {0, 1, 58, 60, 254, 255}) {
                x.seal(NAME, next);
                DUE.answer("15: open()", x.open(), next);
                DUE.answer("15: got()", x.got(), 2);
                DUE.answer("15: open() again", x.open(), -3);
                DUE.answer("15: got() stays", x.got(), 2);
            }
            DUE.answer("15: told(NAME, 2)", x.told(NAME, 2), 6);
            DUE.answer("15: told(NAME, 3)", x.told(NAME, 3), 6);
        }
    }

    /** Whatever bit is wrong, nothing is given out and nothing is got. */
    private static void promise15EverySpoiltBit() {
        for (boolean extended : new boolean[] {true, false}) {
            for (int i = 0; i < 40; i++) {
                GuardedPackets x = Forge.receiver(1024, extended);
                x.hurry(NAME, 500);
                x.feed(5, 0x0504030201L);
                x.seal(NAME, 6);
                for (int bit = 0; bit < 8; bit++) {
                    int before = (int) (x.packet(i) & 255);
                    x.spoil(i, before ^ 1 << bit);
                    int answer = x.open();
                    boolean refused = i < 4 ? answer == -2
                        : answer == -4 || (i < 8 && extended && answer == -3);
                    DUE.answer("15: bit " + bit + " of byte " + i + " refused", refused, true);
                    x.spoil(i, before);
                }
                DUE.answer("15: nothing given out", x.told(NAME, 2), 0);
                DUE.answer("15: the top", x.told(NAME, 1), 0);
                DUE.answer("15: got()", x.got(), 0);
                DUE.answer("15: open() when it is right again", x.open(), 6);
            }
        }
    }

    private static void promise15ShortWindow() {
        GuardedPackets x = Forge.receiver(32, false);
        for (int place = 0; place < 8; place++) {
            x.seal(NAME, place);
            x.keep(place);
        }
        x.hurry(NAME, 35);
        x.seal(NAME, 50);
        DUE.answer("15: open() of 36", x.open(), 50);
        int[] due = {-3, -3, -3, -3, 4, 5, 6, 7};
        for (int place = 0; place < 8; place++) {
            x.bring(place);
            DUE.answer("15: open() of " + (place + 1) + " with the top 36", x.open(), due[place]);
            DUE.answer("15: open() of it again", x.open(), -3);
        }
        DUE.answer("15: the top stays", x.told(NAME, 1), 36);
        DUE.answer("15: given(NAME, 0)", x.given(NAME, 0), 0xF0000001L);
    }

    private static void promise15WindowEdges() {
        for (int window : new int[] {32, 64, 96, 1024}) {
            for (boolean extended : new boolean[] {true, false}) {
                GuardedPackets x = Forge.receiver(window, extended);
                DUE.answer("15: open() of 0 of a new one", Forge.opened(x, extended, 0), -3);
                DUE.answer("15: open() of W", Forge.opened(x, extended, window), 77);
                DUE.answer("15: open() of 0, not above T - W, or taken for 2^32",
                    Forge.opened(x, extended, 0), extended ? -4 : -3);
                x = Forge.receiver(window, extended);
                DUE.answer("15: open() of W + 5", Forge.opened(x, extended, window + 5), 77);
                if (!extended) {
                    DUE.answer("15: open() of T - W", Forge.opened(x, extended, 5), -3);
                    DUE.answer("15: told(NAME, 3)", x.told(NAME, 3), 1);
                }
                x = Forge.receiver(window, extended);
                Forge.opened(x, extended, window + 5);
                DUE.answer("15: open() of T - W + 1", Forge.opened(x, extended, 6), 77);
                DUE.answer("15: the top", x.told(NAME, 1), window + 5);
                DUE.answer("15: T - W + 1 as a bit", x.given(NAME, window - 1), 1);
            }
        }
    }

    private static void promise15ShortNumbers() {
        GuardedPackets x = Forge.receiver(32, false);
        DUE.answer("15: open() of 0", Forge.opened(x, false, 0), -3);
        DUE.answer("15: open() of 2^31", Forge.opened(x, false, 1L << 31), 77);
        x = Forge.receiver(32, false);
        DUE.answer("15: open() of 2^32 - 1", Forge.opened(x, false, 4294967295L), 77);
        DUE.answer("15: the top", x.told(NAME, 1), 4294967295L);
        DUE.answer("15: open() of 1 behind it", Forge.opened(x, false, 1), -3);
        x = Forge.receiver(32, false);
        Forge.opened(x, false, 4294967295L);
        DUE.answer("15: open() of T - 31", Forge.opened(x, false, 4294967295L - 31), 77);
        x = Forge.receiver(32, false);
        Forge.opened(x, false, 4294967295L);
        DUE.answer("15: open() of T - 32", Forge.opened(x, false, 4294967295L - 32), -3);
    }

    /** From T - W + 1 on, 2^32 numbers are told from each other by their lowest 32 bits. */
    private static void promise15LongNumbers() {
        long round = 1L << 32;
        GuardedPackets x = Forge.receiver(32, true);
        DUE.answer("15: open() of the last of a new one", Forge.opened(x, true, round - 32), 77);
        DUE.answer("15: the top", x.told(NAME, 1), round - 32);
        x = Forge.receiver(32, true);
        DUE.answer("15: open() of 2^32 - 31, which it takes for -31",
            Forge.opened(x, true, round - 31), -3);
        DUE.answer("15: told(NAME, 3)", x.told(NAME, 3), 1);
        x = Forge.receiver(32, true);
        Forge.opened(x, true, round - 32);
        DUE.answer("15: open() of 2^32 + 1", Forge.opened(x, true, round + 1), 77);
        DUE.answer("15: the top", x.told(NAME, 1), round + 1);
        x = Forge.receiver(32, true);
        long top = 0;
        x.wipe();
        for (int k = 1; k <= 20; k++) {
            top += round - 32;
            x.hurry(NAME, top - 1);
            x.seal(NAME, k);
            DUE.answer("15: open() of a step of 2^32 - 32", x.open(), k);
            DUE.answer("15: the top", x.told(NAME, 1), top);
        }
        x.hurry(NAME, top + round - 32);
        x.seal(NAME, 1);
        DUE.answer("15: open() of a step too far, taken for T - W + 1", x.open(), -4);
        DUE.answer("15: the top stays", x.told(NAME, 1), top);
    }

    /** The eight bytes go into J alone: another number there opens, if the seal was made so. */
    private static void promise15CarriedBytes() {
        for (boolean extended : new boolean[] {true, false}) {
            GuardedPackets x = Forge.receiver(32, extended);
            Forge.send(x, Forge.packet(extended, 5, 0xF123456789ABCDEFL, 9, 8, 0, 40));
            DUE.answer("15: open() with other eight bytes", x.open(), 40);
            DUE.answer("15: data(0)", x.data(0), 0x0809);
            DUE.answer("15: the top is the number", x.told(NAME, 1), 5);
        }
    }

    /** Any fill that counts up from 1 is right, not just the least one. */
    private static void promise15Fill() {
        int[][] bodies = {
            {1, 2, 2, 7}, {9, 1, 1, 7}, {9, 9, 0, 7},
            {1, 2, 3, 4, 5, 6, 6, 7}, {9, 1, 2, 3, 4, 5, 5, 7}, {1, 1, 1, 1, 1, 1, 1, 7},
        };
        int[] lengths = {0, 1, 2, 0, 1, 5};
        GuardedPackets x = Forge.receiver(32, true);
        for (int i = 0; i < bodies.length; i++) {
            x = i % 2 == 0 ? Forge.receiver(32, true) : x;
            Forge.send(x, Forge.packet(true, i + 1, i + 1, bodies[i]));
            DUE.answer("15: open() of " + Arrays.toString(bodies[i]), x.open(), 7);
            DUE.answer("15: got() of " + Arrays.toString(bodies[i]), x.got(), lengths[i]);
        }
        int[] longest = new int[204];
        for (int i = 0; i < 202; i++) {
            longest[i] = i + 1;
        }
        longest[202] = 202;
        longest[203] = 0;
        x = Forge.receiver(32, true);
        Forge.send(x, Forge.packet(true, 1, 1, longest));
        DUE.answer("15: open() of fill alone", x.open(), 0);
        DUE.answer("15: got() of fill alone", x.got(), 0);
        longest[202] = 0;
        x = Forge.receiver(32, true);
        Forge.send(x, Forge.packet(true, 1, 1, longest));
        DUE.answer("15: open() of no fill", x.open(), 0);
        DUE.answer("15: got() of no fill", x.got(), 202);
        DUE.answer("15: data(196) of no fill", x.data(196), 0x0000CAC9C8C7C6C5L);
    }

    private static void promise15WrongFillAndDummy() {
        int[][] bodies = {
            {1, 2, 3, 7}, {1, 1, 2, 7}, {2, 2, 2, 7}, {0, 1, 2, 7}, {1, 2, 255, 7}, {9, 0, 1, 7},
            {9, 2, 1, 7}, {1, 2, 3, 59}, {1, 2, 128, 7}, {1, 2, 2, 59}, {9, 9, 0, 59},
        };
        int[] due = {-5, -5, -5, -5, -5, -5, -5, -5, -5, -6, -6};
        for (int i = 0; i < bodies.length; i++) {
            String body = Arrays.toString(bodies[i]);
            GuardedPackets x = Forge.receiver(32, true);
            x.feed(3, 0x030201);
            x.seal(NAME, 1);
            x.open();
            DUE.answer("15: got() before", x.got(), 3);
            Forge.send(x, Forge.packet(true, 9, 9, bodies[i]));
            DUE.answer("15: open() of " + body, x.open(), due[i]);
            DUE.answer("15: got() of " + body, x.got(), 0);
            DUE.answer("15: data(0) of " + body, x.data(0), 0);
            DUE.answer("15: the top behind " + body, x.told(NAME, 1), 9);
            DUE.answer("15: how many given out behind " + body, x.told(NAME, 2), 2);
            DUE.answer("15: given(NAME, 0) behind " + body, x.given(NAME, 0), 0x101);
            DUE.answer("15: open() of " + body + " again", x.open(), -3);
        }
    }

    private static void promise15OrderOfFaults() {
        GuardedPackets x = Forge.receiver(32, true);
        x.seal(NAME, 4);
        x.keep(0);
        x.open();
        x.spoil(30, ~(int) x.packet(30) & 255);
        DUE.answer("15: given out before, and spoilt", x.open(), -3);
        x.spoil(0, 1);
        DUE.answer("15: no such name, given out and spoilt", x.open(), -2);
        x.cut(35);
        DUE.answer("15: too short, too", x.open(), -1);
        x.bring(0);
        DUE.answer("15: told(NAME, 3)", x.told(NAME, 3), 1);
        DUE.answer("15: told(NAME, 4)", x.told(NAME, 4), 0);
    }

    private static void promise16EveryLength() {
        GuardedPackets x = Forge.receiver(32, true);
        for (int n = 0; n <= 200; n++) {
            if (n % 100 == 0) {
                x = Forge.receiver(32, true);
                for (int i = 0; i < n; i++) {
                    x.feed(1, i);
                }
            }
            x.seal(NAME, 1);
            x.open();
            DUE.answer("16: got() of " + n, x.got(), n);
            x.feed(1, n);
        }
    }

    private static void promise16And17Got() {
        GuardedPackets x = Forge.receiver(32, true);
        byte[] all = new byte[200];
        for (int i = 0; i < 200; i++) {
            all[i] = (byte) (3 * i + 1);
            x.feed(1, all[i]);
        }
        x.seal(NAME, 1);
        x.open();
        for (int i = -12; i <= 210; i++) {
            DUE.answer("17: data(" + i + ")", x.data(i), Crypto.eight(all, i));
        }
        int[] far = {Integer.MIN_VALUE, -8, 200, Integer.MAX_VALUE - 3, Integer.MAX_VALUE};
        for (int i : far) {
            DUE.answer("17: data(" + i + ")", x.data(i), 0);
        }
        x.wipe();
        x.spoil(0, 255);
        x.open();
        x.cut(0);
        x.drop(NAME);
        DUE.answer("16: got() stays", x.got(), 200);
        DUE.answer("17: data(0) stays", x.data(0), Crypto.eight(all, 0));
        x.add(NAME, 1, 2, 3, 32, true);
        x.feed(2, 0x0201);
        x.seal(NAME, 1);
        x.open();
        DUE.answer("16: got() of less", x.got(), 2);
        DUE.answer("17: data(0) of less", x.data(0), 0x0201);
        DUE.answer("17: data(-6) of less", x.data(-6), 0x0201L << 48);
    }

    private static void promise18Told() {
        GuardedPackets x = Forge.receiver(96, true);
        x.add(NAME + 1, 1, 2, 3, 32, false);
        x.feed(5, 0);
        x.hurry(NAME, 20);
        for (int i = 0; i < 4; i++) {
            x.seal(NAME, i == 3 ? 59 : 1);
            x.open();
        }
        x.open();
        x.open();
        x.seal(NAME, 1);
        x.spoil(35, ~(int) x.packet(35) & 255);
        for (int i = 0; i < 3; i++) {
            x.open();
        }
        long[] due = {25, 24, 4, 2, 3, 999999975, 96, 1};
        long[] other = {0, 0, 0, 0, 0, 1000000000, 32, 0};
        for (int what = 0; what < 8; what++) {
            DUE.answer("18: told(NAME, " + what + ")", x.told(NAME, what), due[what]);
            DUE.answer("18: told(NAME + 1, " + what + ")", x.told(NAME + 1, what), other[what]);
        }
        for (int what : new int[] {-1, 8, Integer.MAX_VALUE, Integer.MIN_VALUE}) {
            DUE.thrown("18: told(NAME, " + what + ")", ARGUMENT, () -> x.told(NAME, what));
            DUE.thrown("18: told of none, " + what, STATE, () -> x.told(NAME + 2, what));
        }
        DUE.thrown("18: told of none", STATE, () -> x.told(-1, 0));
    }

    private static void promise19Given() {
        GuardedPackets x = Forge.receiver(32, true);
        DUE.answer("19: given(NAME, 0) of a new one", x.given(NAME, 0), 0);
        long due = 0;
        for (int k = 1; k <= 100; k++) {
            x.seal(NAME, 1);
            if (k % 3 != 0 || k == 99) {
                x.open();
                due = (due << 1 | 1) & 0xFFFFFFFFL;
            } else {
                due = due << 1 & 0xFFFFFFFFL;
            }
            if (x.told(NAME, 1) == k) {
                DUE.answer("19: given(NAME, 0) with the top " + k, x.given(NAME, 0), due);
            }
        }
        for (int i = 0; i <= 70; i++) {
            DUE.answer("19: given(NAME, " + i + ")", x.given(NAME, i), i < 32 ? due >>> i : 0);
        }
        DUE.answer("19: given(NAME, greatest)", x.given(NAME, Integer.MAX_VALUE), 0);
        DUE.thrown("19: given(NAME, -1)", ARGUMENT, () -> x.given(NAME, -1));
        DUE.thrown("19: given(NAME, least)", ARGUMENT, () -> x.given(NAME, Integer.MIN_VALUE));
        DUE.thrown("19: given of none", STATE, () -> x.given(NAME + 1, 0));
        DUE.thrown("19: given of none, -1", STATE, () -> x.given(NAME + 1, -1));
        x.hurry(NAME, 131);
        x.seal(NAME, 1);
        x.open();
        DUE.answer("19: given(NAME, 0) when all have left", x.given(NAME, 0), 1);
    }

    private static void promise19WideWindow() {
        GuardedPackets x = Forge.receiver(1024, true);
        x.seal(NAME, 1);
        x.open();
        x.hurry(NAME, 63);
        x.seal(NAME, 1);
        x.open();
        DUE.answer("19: the lowest and the highest bit", x.given(NAME, 0), 1L << 63 | 1);
        x.hurry(NAME, 65);
        x.seal(NAME, 1);
        x.open();
        DUE.answer("19: just 64 bits", x.given(NAME, 1), 2);
        DUE.answer("19: the next bits", x.given(NAME, 65), 1);
        x.hurry(NAME, 1023);
        x.seal(NAME, 1);
        x.open();
        DUE.answer("19: T - W + 1", x.given(NAME, 1023), 1);
        DUE.answer("19: T - W + 1 as the highest", x.given(NAME, 960), 1L << 63 | 1);
        DUE.answer("19: below the window", x.given(NAME, 1024), 0);
        x.seal(NAME, 1);
        x.open();
        DUE.answer("19: what has left the window", x.given(NAME, 1023), 0);
        DUE.answer("19: what has left as the highest", x.given(NAME, 961), 1);
        DUE.answer("19: the top and the one below", x.given(NAME, 0), 3);
    }

    private static void promise20Name() {
        GuardedPackets x = new GuardedPackets();
        int[] names = {Integer.MAX_VALUE, 256, 70000, 300, 299, 1000000, 257};
        int[] order = {256, 257, 299, 300, 70000, 1000000, Integer.MAX_VALUE};
        for (int name : names) {
            x.add(name, 0, 0, 0, 32, true);
        }
        for (int i = 0; i < order.length; i++) {
            DUE.answer("20: name(" + i + ")", x.name(i), order[i]);
        }
        for (int i : new int[] {7, 15, 16, 17, -1, Integer.MAX_VALUE, Integer.MIN_VALUE}) {
            DUE.answer("20: name(" + i + ")", x.name(i), -1);
        }
        x.drop(256);
        DUE.answer("20: name(0) behind a drop", x.name(0), 257);
        DUE.answer("20: name(6) behind a drop", x.name(6), -1);
        x.drop(Integer.MAX_VALUE);
        DUE.answer("20: name(4) behind another drop", x.name(4), 1000000);
        DUE.answer("20: name(5) behind another drop", x.name(5), -1);
        x.add(256, 0, 0, 0, 32, true);
        DUE.answer("20: name(0) when added again", x.name(0), 256);
    }
}
