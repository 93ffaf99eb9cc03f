import java.util.Arrays;

/** Promises 1 to 8: a new object, associations, data, and sealing. */
public final class SenderTest {
    private static final Class<IllegalArgumentException> ARGUMENT = IllegalArgumentException.class;
    private static final Class<IllegalStateException> STATE = IllegalStateException.class;
    private static final Due DUE = new Due("SenderTest");

    private SenderTest() {
    }

    public static void main(String[] args) {
        promise1NewObject();
        promise1ObjectsShareNothing();
        promise2Add();
        promise2WrongAdds();
        promise2SixteenAtMost();
        promise2RefusedAddChangesNothing();
        promise3Drop();
        promise3AddBehindDrop();
        promise3AddedAgainIsNew();
        promise4Hurry();
        promise4WrongHurries();
        promise5Life();
        promise6Feed();
        promise6FullData();
        promise7Wipe();
        promise8EveryLength();
        promise8Numbers();
        promise8Refusals();
        promise8WrongSeals();
        DUE.finish();
    }

    static GuardedPackets with(int name, int window, boolean extended) {
        GuardedPackets x = new GuardedPackets();
        x.add(name, 1L, 2L, 3, window, extended);
        return x;
    }

    private static void promise1NewObject() {
        GuardedPackets x = new GuardedPackets();
        DUE.answer("1: NONE", GuardedPackets.NONE, -1);
        DUE.answer("1: name(0)", x.name(0), -1);
        DUE.answer("1: size()", x.size(), 0);
        DUE.answer("1: packet(0)", x.packet(0), 0);
        DUE.answer("1: open()", x.open(), -1);
        DUE.answer("1: got()", x.got(), 0);
        DUE.answer("1: data(0)", x.data(0), 0);
        for (int place = 0; place < 8; place++) {
            DUE.answer("1: bring(" + place + ")", x.bring(place), -1);
        }
        DUE.answer("1: wipe()", x.wipe(), 0);
        DUE.answer("1: drop(256)", x.drop(256), false);
        DUE.thrown("1: told(256, 0)", STATE, () -> x.told(256, 0));
        DUE.thrown("1: seal(256, 0)", STATE, () -> x.seal(256, 0));
        DUE.thrown("1: spoil(0, 0)", IndexOutOfBoundsException.class, () -> x.spoil(0, 0));
    }

    private static void promise1ObjectsShareNothing() {
        GuardedPackets x = with(256, 32, true);
        x.feed(1, 1);
        x.seal(256, 4);
        x.keep(0);
        x.open();
        GuardedPackets y = new GuardedPackets();
        DUE.answer("1: another object's name(0)", y.name(0), -1);
        DUE.answer("1: another object's wipe()", y.wipe(), 0);
        DUE.answer("1: another object's size()", y.size(), 0);
        DUE.answer("1: another object's bring(0)", y.bring(0), -1);
        DUE.answer("1: another object's got()", y.got(), 0);
        DUE.answer("1: the first object's got()", x.got(), 1);
    }

    private static void promise2Add() {
        int[] names = {256, 257, 65535, 1000000, Integer.MAX_VALUE};
        int[] windows = {32, 64, 96, 992, 1024};
        GuardedPackets x = new GuardedPackets();
        for (int i = 0; i < names.length; i++) {
            DUE.answer("2: add", x.add(names[i], i, -i, i, windows[i], i % 2 == 0), true);
        }
        for (int i = 0; i < names.length; i++) {
            long[] due = {0, 0, 0, 0, 0, 1000000000, windows[i], 1 - i % 2};
            for (int what = 0; what < 8; what++) {
                DUE.answer("2: told(" + names[i] + ", " + what + ") of a new one",
                    x.told(names[i], what), due[what]);
            }
            DUE.answer("2: given(" + names[i] + ", 0) of a new one", x.given(names[i], 0), 0);
        }
    }

    private static void promise2WrongAdds() {
        GuardedPackets x = new GuardedPackets();
        for (int name : new int[] {255, 0, -1, Integer.MIN_VALUE, -256}) {
            DUE.thrown("2: add of the name " + name, ARGUMENT,
                () -> x.add(name, 1, 2, 3, 32, true));
        }
        for (int window : new int[] {0, 31, 33, 48, 1023, 1025, 1056, -32, Integer.MIN_VALUE, 16}) {
            DUE.thrown("2: add with the window " + window, ARGUMENT,
                () -> x.add(256, 1, 2, 3, window, true));
        }
        DUE.answer("2: name(0) after wrong adds", x.name(0), -1);
    }

    private static void promise2SixteenAtMost() {
        GuardedPackets x = new GuardedPackets();
        for (int i = 0; i < 16; i++) {
            DUE.answer("2: add, the " + i + "-th", x.add(300 + i, i, i, i, 32, true), true);
        }
        DUE.answer("2: the 17th add", x.add(256, 1, 2, 3, 32, true), false);
        DUE.answer("2: name(15)", x.name(15), 315);
        DUE.answer("2: name(16)", x.name(16), -1);
        DUE.thrown("2: a wrong name, when there are 16", ARGUMENT,
            () -> x.add(255, 1, 2, 3, 32, true));
        DUE.thrown("2: a wrong window, when there are 16", ARGUMENT,
            () -> x.add(300, 1, 2, 3, 40, true));
        x.drop(307);
        DUE.answer("2: add in place of a dropped one", x.add(256, 1, 2, 3, 32, true), true);
        DUE.answer("2: one more", x.add(307, 1, 2, 3, 32, true), false);
    }

    private static void promise2RefusedAddChangesNothing() {
        GuardedPackets x = with(256, 64, true);
        x.feed(3, 0x030201);
        x.seal(256, 4);
        DUE.answer("2: add of a name that is there", x.add(256, 9, 9, 9, 32, false), false);
        DUE.answer("2: told(256, 0) stays", x.told(256, 0), 1);
        DUE.answer("2: told(256, 6) stays", x.told(256, 6), 64);
        DUE.answer("2: told(256, 7) stays", x.told(256, 7), 1);
        DUE.answer("2: open() with the first key", x.open(), 4);
    }

    private static void promise3Drop() {
        GuardedPackets x = new GuardedPackets();
        for (int name = 400; name < 404; name++) {
            x.add(name, name, 0, 0, 32, true);
            x.hurry(name, name);
        }
        DUE.answer("3: drop(401)", x.drop(401), true);
        DUE.answer("3: drop(401) again", x.drop(401), false);
        DUE.answer("3: drop(399)", x.drop(399), false);
        DUE.answer("3: drop(-1)", x.drop(-1), false);
        int[] left = {400, 402, 403};
        for (int i = 0; i < 3; i++) {
            DUE.answer("3: name(" + i + ")", x.name(i), left[i]);
            DUE.answer("3: told(" + left[i] + ", 0)", x.told(left[i], 0), left[i]);
        }
        DUE.answer("3: name(3)", x.name(3), -1);
        DUE.thrown("3: told(401, 0)", STATE, () -> x.told(401, 0));
        x.seal(400, 1);
        x.drop(400);
        DUE.answer("3: open() of a dropped one's packet", x.open(), -2);
        DUE.answer("3: size() stays", x.size(), 36);
    }

    /** What is added behind a drop is an association of its own, not one of those left. */
    private static void promise3AddBehindDrop() {
        GuardedPackets x = new GuardedPackets();
        for (int name = 400; name < 404; name++) {
            x.add(name, name, 0, 0, 32, true);
            x.hurry(name, name);
        }
        x.drop(401);
        x.add(500, 7, 0, 0, 64, false);
        x.hurry(500, 9);
        int[] names = {400, 402, 403, 500};
        long[] lasts = {400, 402, 403, 9};
        for (int i = 0; i < 4; i++) {
            DUE.answer("3: name(" + i + ") behind an add", x.name(i), names[i]);
            DUE.answer("3: told(" + names[i] + ", 0)", x.told(names[i], 0), lasts[i]);
            x.seal(names[i], i);
            DUE.answer("3: open() of " + names[i], x.open(), i);
        }
    }

    private static void promise3AddedAgainIsNew() {
        GuardedPackets x = with(256, 1024, true);
        x.hurry(256, 700);
        for (int i = 0; i < 3; i++) {
            x.seal(256, 1);
            x.open();
            x.open();
        }
        x.spoil(7, 99);
        x.open();
        x.life(256, 5);
        x.drop(256);
        DUE.answer("3: add again", x.add(256, 1, 2, 3, 1024, true), true);
        long[] due = {0, 0, 0, 0, 0, 1000000000, 1024, 1};
        for (int what = 0; what < 8; what++) {
            DUE.answer("3: told(256, " + what + ") when added again", x.told(256, what), due[what]);
        }
        x.hurry(256, 702);
        x.seal(256, 8);
        DUE.answer("3: open() of a number that the dropped one gave out", x.open(), 8);
        DUE.answer("3: given(256, 0) when added again", x.given(256, 0), 1);
    }

    private static void promise4Hurry() {
        GuardedPackets x = with(256, 32, true);
        x.hurry(256, 0);
        x.hurry(256, 40);
        DUE.answer("4: told(256, 0)", x.told(256, 0), 40);
        DUE.answer("4: told(256, 1), the receiver's", x.told(256, 1), 0);
        DUE.passes("4: hurry to the same", () -> x.hurry(256, 40));
        x.seal(256, 7);
        DUE.answer("4: told(256, 0) behind a seal", x.told(256, 0), 41);
        DUE.answer("4: open()", x.open(), 7);
        DUE.answer("4: told(256, 1)", x.told(256, 1), 41);
        DUE.passes("4: hurry to the greatest", () -> x.hurry(256, Long.MAX_VALUE));
        DUE.answer("4: told(256, 0), the greatest", x.told(256, 0), Long.MAX_VALUE);
        x.add(257, 1, 2, 3, 32, false);
        DUE.passes("4: hurry to 2^32 - 1", () -> x.hurry(257, 4294967295L));
        DUE.answer("4: told(257, 0), the greatest", x.told(257, 0), 4294967295L);
    }

    private static void promise4WrongHurries() {
        GuardedPackets x = with(256, 32, true);
        x.add(257, 1, 2, 3, 32, false);
        x.hurry(256, 10);
        DUE.thrown("4: hurry of none", STATE, () -> x.hurry(258, 10));
        DUE.thrown("4: hurry of none, below 0", STATE, () -> x.hurry(258, -1));
        DUE.thrown("4: hurry below", ARGUMENT, () -> x.hurry(256, 9));
        DUE.thrown("4: hurry below 0", ARGUMENT, () -> x.hurry(257, -1));
        DUE.thrown("4: hurry to the least long", ARGUMENT, () -> x.hurry(257, Long.MIN_VALUE));
        DUE.thrown("4: hurry to 2^32", ARGUMENT, () -> x.hurry(257, 4294967296L));
        DUE.answer("4: told(256, 0) stays", x.told(256, 0), 10);
        DUE.answer("4: told(257, 0) stays", x.told(257, 0), 0);
        DUE.passes("4: hurry to 2^32, extended", () -> x.hurry(256, 4294967296L));
    }

    private static void promise5Life() {
        GuardedPackets x = with(256, 32, true);
        x.add(257, 1, 2, 3, 32, false);
        DUE.answer("5: life(256, 10)", x.life(256, 10), 1000000000);
        DUE.answer("5: life(256, 0)", x.life(256, 0), 10);
        DUE.answer("5: life(256, greatest)", x.life(256, Integer.MAX_VALUE), 0);
        DUE.answer("5: told(256, 5)", x.told(256, 5), Integer.MAX_VALUE);
        DUE.answer("5: told(257, 5)", x.told(257, 5), 1000000000);
        DUE.thrown("5: life(256, -1)", ARGUMENT, () -> x.life(256, -1));
        DUE.thrown("5: life(258, 1)", STATE, () -> x.life(258, 1));
        DUE.thrown("5: life(258, -1)", STATE, () -> x.life(258, -1));
        DUE.answer("5: told(256, 5) stays", x.told(256, 5), Integer.MAX_VALUE);
    }

    /** What was fed comes out of seal and open just so. */
    private static void promise6Feed() {
        GuardedPackets x = with(256, 32, true);
        long bytes = 0x8877665544332211L;
        int all = 0;
        for (int n = 1; n <= 8; n++) {
            all += n;
            DUE.answer("6: feed(" + n + ")", x.feed(n, bytes), all);
        }
        for (int n : new int[] {0, 9, -1, Integer.MIN_VALUE, Integer.MAX_VALUE}) {
            DUE.thrown("6: feed(" + n + ")", ARGUMENT, () -> x.feed(n, bytes));
        }
        x.seal(256, 0);
        x.open();
        DUE.answer("6: got()", x.got(), 36);
        int at = 0;
        for (int n = 1; n <= 8; n++) {
            for (int k = 0; k < n; k++) {
                DUE.answer("6: byte " + at, x.data(at) & 255, 0x11 * (k + 1));
                at++;
            }
        }
    }

    private static void promise6FullData() {
        GuardedPackets x = with(256, 32, true);
        for (int i = 1; i <= 24; i++) {
            DUE.answer("6: feed(8)", x.feed(8, i), 8 * i);
        }
        DUE.answer("6: feed(7)", x.feed(7, -1), 199);
        DUE.answer("6: feed(2) to 201", x.feed(2, -1), -1);
        DUE.answer("6: feed(8) to 207", x.feed(8, -1), -1);
        DUE.answer("6: feed(1) to 200", x.feed(1, 5), 200);
        DUE.answer("6: feed(1) to 201", x.feed(1, 6), -1);
        DUE.thrown("6: feed(9), when full", ARGUMENT, () -> x.feed(9, 0));
        DUE.answer("6: seal with 200 bytes", x.seal(256, 1), 236);
        x.open();
        DUE.answer("6: got()", x.got(), 200);
        DUE.answer("6: the last byte", x.data(199), 5);
    }

    private static void promise7Wipe() {
        GuardedPackets x = with(256, 32, true);
        x.feed(5, 0x0504030201L);
        x.seal(256, 1);
        x.open();
        DUE.answer("7: wipe()", x.wipe(), 5);
        DUE.answer("7: wipe() again", x.wipe(), 0);
        DUE.answer("7: size() stays", x.size(), 40);
        DUE.answer("7: got() stays", x.got(), 5);
        DUE.answer("7: feed behind it", x.feed(1, 9), 1);
        x.seal(256, 1);
        x.open();
        DUE.answer("7: data(0)", x.data(0), 9);
        for (int i = 0; i < 25; i++) {
            x.feed(7, 0);
        }
        DUE.answer("7: wipe() of many", x.wipe(), 176);
    }

    /** Each length of data, with a number far and near, against the Java library's cipher. */
    private static void promise8EveryLength() {
        for (int n = 0; n <= 200; n++) {
            boolean extended = n % 2 == 0;
            long high = n * 0x9E3779B97F4A7C15L;
            long low = ~high * 31;
            int salt = (int) (high >>> 20);
            GuardedPackets x = new GuardedPackets();
            x.add(256 + n, high, low, salt, 32, extended);
            x.hurry(256 + n, extended ? n * 0x0123456789ABCDL : n * 20000000L);
            byte[] data = new byte[n];
            for (int i = 0; i < n; i++) {
                data[i] = (byte) (i * i + n);
                x.feed(1, data[i]);
            }
            int next = (n * 7) & 255;
            long number = x.told(256 + n, 0) + 1;
            byte[] due = Crypto.packet(Crypto.key(high, low), 256 + n, salt, extended, number,
                number, Crypto.body(data, next));
            DUE.answer("8: seal of " + n, x.seal(256 + n, next), due.length);
            compare("8: the packet of " + n, x, due);
            DUE.answer("8: the data stay", x.wipe(), n);
        }
    }

    private static void compare(String what, GuardedPackets x, byte[] due) {
        byte[] packet = new byte[x.size()];
        for (int i = 0; i < packet.length; i++) {
            packet[i] = (byte) x.packet(i);
        }
        DUE.text(what, Arrays.toString(packet), Arrays.toString(due));
    }

    private static void promise8Numbers() {
        GuardedPackets x = with(256, 32, true);
        DUE.answer("8: seal", x.seal(256, 5), 36);
        DUE.answer("8: told(256, 0)", x.told(256, 0), 1);
        DUE.answer("8: seal", x.seal(256, 5), 36);
        DUE.answer("8: told(256, 0)", x.told(256, 0), 2);
        DUE.answer("8: the head's first half", x.packet(0), 0x0200000000010000L);
        DUE.answer("8: the head's other half", x.packet(8), 0x0200000000000000L);
        x.hurry(256, 0x0102030405060707L);
        x.seal(256, 5);
        DUE.answer("8: the lowest 32 bits", x.packet(4) & 0xFFFFFFFFL, 0x08070605L);
        DUE.answer("8: the number", x.packet(8), 0x0807060504030201L);
    }

    private static void promise8Refusals() {
        GuardedPackets x = with(256, 32, true);
        x.add(257, 4, 5, 6, 32, false);
        x.feed(6, 0);
        x.life(256, 12);
        DUE.answer("8: seal with life for it", x.seal(256, 1), 40);
        DUE.answer("8: told(256, 5)", x.told(256, 5), 6);
        DUE.answer("8: seal with just the life for it", x.seal(256, 1), 40);
        DUE.answer("8: told(256, 5)", x.told(256, 5), 0);
        long before = x.packet(16);
        DUE.answer("8: seal without life", x.seal(256, 2), -1);
        DUE.answer("8: told(256, 0) stays", x.told(256, 0), 2);
        DUE.answer("8: the packet stays", x.packet(16), before);
        x.life(256, 5);
        DUE.answer("8: seal with too little life", x.seal(256, 2), -1);
        DUE.answer("8: told(256, 5) stays", x.told(256, 5), 5);
        x.wipe();
        x.life(256, 0);
        DUE.answer("8: seal of no data without life", x.seal(256, 2), 36);
        x.hurry(256, Long.MAX_VALUE - 1);
        DUE.answer("8: seal with the greatest number", x.seal(256, 2), 36);
        DUE.answer("8: seal behind the greatest", x.seal(256, 2), -1);
        DUE.answer("8: told(256, 0), the greatest", x.told(256, 0), Long.MAX_VALUE);
        x.hurry(257, 4294967294L);
        DUE.answer("8: seal with 2^32 - 1", x.seal(257, 2), 36);
        DUE.answer("8: the number 2^32 - 1", x.packet(8), 0xFFFFFFFF00000000L);
        DUE.answer("8: seal behind 2^32 - 1", x.seal(257, 2), -1);
    }

    private static void promise8WrongSeals() {
        GuardedPackets x = with(256, 32, true);
        for (int next : new int[] {-1, 256, Integer.MIN_VALUE, Integer.MAX_VALUE}) {
            DUE.thrown("8: seal with next " + next, ARGUMENT, () -> x.seal(256, next));
            DUE.thrown("8: seal of none with next " + next, STATE, () -> x.seal(257, next));
        }
        DUE.thrown("8: seal of none", STATE, () -> x.seal(257, 0));
        DUE.answer("8: no packet yet", x.size(), 0);
        DUE.answer("8: told(256, 0) stays", x.told(256, 0), 0);
        x.hurry(256, Long.MAX_VALUE);
        DUE.thrown("8: a wrong next, behind the greatest", ARGUMENT, () -> x.seal(256, 256));
        DUE.answer("8: seal with next 255, behind the greatest", x.seal(256, 255), -1);
    }
}
