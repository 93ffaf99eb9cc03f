/** The boundary cases that the promises' own sentences name; open has a test of its own. */
public final class BoundaryTest {
    private static final Class<IllegalArgumentException> ARGUMENT = IllegalArgumentException.class;
    private static final Class<IllegalStateException> STATE = IllegalStateException.class;
    private static final Class<IndexOutOfBoundsException> BOUNDS = IndexOutOfBoundsException.class;
    private static final Due DUE = new Due("BoundaryTest");
    private static final int NAME = Forge.NAME;
    private static final int LEAST = Integer.MIN_VALUE;
    private static final int MOST = Integer.MAX_VALUE;
    private static final long SHORT_MOST = 4294967295L;
    private static final boolean[] BOTH = {true, false};

    private BoundaryTest() {
    }

    public static void main(String[] args) {
        promise1NothingAtAll();
        promise2LessThan16();
        promise2NoneWithThisName();
        promise3WhetherItWasThere();
        promise3DownToNone();
        promise3NothingIsLeft();
        promise4BelowTheLast();
        promise4AboveTheGreatest();
        promise5BelowZero();
        promise5AnswersTheLifeBefore();
        promise6LowestBytes();
        promise6OneToEight();
        promise6MoreThan200();
        promise7NoneAndMost();
        promise8LastIsTheGreatest();
        promise8MoreThanTheLife();
        promise8NextIsNoByte();
        promise9NoneAndMost();
        promise10BytesThatItHasNot();
        promise11NoSuchByte();
        promise11NoByteValue();
        promise12FirstBytes();
        promise12BelowZeroOrAbove();
        promise13InPlaceOfWhatWasThere();
        promise13And14Places();
        promise14NothingKept();
        promise16NoneWereGot();
        promise16StaysOrIsGone();
        promise17BytesThatItHasNot();
        promise18EachWhat();
        promise18AnotherWhat();
        promise18NumbersAtTheirMost();
        promise19BelowZero();
        promise19FromTheTopDown();
        promise19NotAboveTopLessWindow();
        promise19BelowOne();
        promise20NotSoMany();
        DUE.finish();
    }

    private static void fill(GuardedPackets x, int bytes) {
        for (int k = 0; k < bytes; k++) {
            x.feed(1, k + 1);
        }
    }

    private static GuardedPackets sixteen() {
        GuardedPackets x = new GuardedPackets();
        for (int k = 0; k < 16; k++) {
            DUE.answer("add, when there are " + k, x.add(1000 + k, k, k, k, 32, true), true);
        }
        return x;
    }

    /** "No associations, data, packet; nothing kept, nothing got." */
    private static void promise1NothingAtAll() {
        GuardedPackets x = new GuardedPackets();
        for (int i = -1; i <= 16; i++) {
            DUE.answer("1: name(" + i + ")", x.name(i), -1);
        }
        for (int i = -8; i <= 240; i += 8) {
            DUE.answer("1: packet(" + i + ")", x.packet(i), 0);
            DUE.answer("1: data(" + i + ")", x.data(i), 0);
        }
        for (int place = 0; place < 8; place++) {
            DUE.answer("1: bring(" + place + ")", x.bring(place), -1);
        }
        DUE.answer("1: size()", x.size(), 0);
        DUE.answer("1: got()", x.got(), 0);
        DUE.answer("1: open()", x.open(), -1);
        DUE.answer("1: feed(8)", x.feed(8, 0), 8);
        DUE.answer("1: wipe()", x.wipe(), 8);
    }

    /** "there were less than 16". */
    private static void promise2LessThan16() {
        GuardedPackets x = sixteen();
        DUE.answer("2: add, when there are 16", x.add(2000, 1, 2, 3, 32, true), false);
        DUE.answer("2: name(15)", x.name(15), 1015);
        DUE.answer("2: name(16)", x.name(16), -1);
        DUE.thrown("2: told of the 17th", STATE, () -> x.told(2000, 0));
        x.drop(1000);
        DUE.answer("2: add, when there are 15 again", x.add(2000, 1, 2, 3, 32, true), true);
        DUE.answer("2: add, when there are 16 again", x.add(1000, 1, 2, 3, 32, true), false);
        DUE.answer("2: name(15) now", x.name(15), 2000);
    }

    /** "and none with this name": with one or sixteen, and no longer behind a drop. */
    private static void promise2NoneWithThisName() {
        GuardedPackets x = sixteen();
        for (int name : new int[] {1000, 1007, 1015}) {
            DUE.answer("2: add of " + name + " among 16", x.add(name, 1, 2, 3, 64, false), false);
            DUE.answer("2: its window", x.told(name, 6), 32);
            DUE.answer("2: its extension", x.told(name, 7), 1);
        }
        for (int name : new int[] {256, MOST}) {
            GuardedPackets y = new GuardedPackets();
            DUE.answer("2: add of " + name, y.add(name, 1, 2, 3, 64, false), true);
            DUE.answer("2: add of it again", y.add(name, 1, 2, 3, 64, false), false);
            DUE.answer("2: drop of it", y.drop(name), true);
            DUE.answer("2: add of it behind that", y.add(name, 1, 2, 3, 96, false), true);
            DUE.answer("2: its window behind that", y.told(name, 6), 96);
        }
    }

    /** "Answers whether it was there." */
    private static void promise3WhetherItWasThere() {
        GuardedPackets none = new GuardedPackets();
        for (int name : new int[] {LEAST, -1, 0, 255, 256, MOST}) {
            DUE.answer("3: drop(" + name + ") of none", none.drop(name), false);
        }
        GuardedPackets x = sixteen();
        for (int name : new int[] {LEAST, -1, 0, 255, 256, 999, 1016, MOST}) {
            DUE.answer("3: drop(" + name + ") beside 16", x.drop(name), false);
        }
        DUE.answer("3: name(15) stays", x.name(15), 1015);
        for (int name : new int[] {1000, 1015, 1008}) {
            DUE.answer("3: drop(" + name + ")", x.drop(name), true);
            DUE.answer("3: drop(" + name + ") again", x.drop(name), false);
        }
        DUE.answer("3: name(12)", x.name(12), 1014);
        DUE.answer("3: name(13)", x.name(13), -1);
    }

    private static void promise3DownToNone() {
        GuardedPackets x = sixteen();
        for (int k = 0; k < 16; k++) {
            int name = 1000 + (7 * k + 3) % 16;
            DUE.answer("3: drop(" + name + ")", x.drop(name), true);
            DUE.answer("3: name, when one more is gone", x.name(15 - k), -1);
        }
        DUE.answer("3: name(0) of none", x.name(0), -1);
        for (int k = 0; k < 16; k++) {
            DUE.answer("3: add behind all drops", x.add(1000 + k, 1, 2, 3, 64, false), true);
            x.hurry(1000 + k, k);
        }
        for (int k = 0; k < 16; k++) {
            DUE.answer("3: name(" + k + ") behind all drops", x.name(k), 1000 + k);
            DUE.answer("3: each is one of its own", x.told(1000 + k, 0), k);
            DUE.answer("3: with its own window", x.told(1000 + k, 6), 64);
        }
    }

    /** "An association is gone": what is added with its name, or in its place, is new. */
    private static void promise3NothingIsLeft() {
        for (int again : new int[] {NAME, NAME + 1}) {
            GuardedPackets x = Forge.receiver(1024, true);
            fill(x, 9);
            x.hurry(NAME, 40);
            for (int k = 0; k < 3; k++) {
                x.seal(NAME, 1);
                x.open();
                x.open();
                x.spoil(7, 90);
                x.open();
            }
            x.drop(NAME);
            x.add(again, Forge.HIGH, Forge.LOW, Forge.SALT, 1024, true);
            long[] due = {0, 0, 0, 0, 0, 1000000000, 1024, 1};
            for (int what = 0; what < 8; what++) {
                DUE.answer("3: told(" + what + ") of a new one", x.told(again, what), due[what]);
            }
            x.hurry(again, 99);
            x.seal(again, 1);
            DUE.answer("3: open() of a new one", x.open(), 1);
            DUE.answer("3: given(0) of a new one", x.given(again, 0), 1);
            DUE.answer("3: given(50) of a new one", x.given(again, 50), 0);
        }
    }

    /** "that is below it": one below is refused, the same and one above are not. */
    private static void promise4BelowTheLast() {
        for (boolean extended : BOTH) {
            GuardedPackets x = Forge.receiver(32, extended);
            for (long last : new long[] {0, 1, 1000, SHORT_MOST - 1, SHORT_MOST}) {
                DUE.passes("4: hurry to " + last, () -> x.hurry(NAME, last));
                DUE.thrown("4: hurry below " + last, ARGUMENT, () -> x.hurry(NAME, last - 1));
                DUE.thrown("4: hurry to -1", ARGUMENT, () -> x.hurry(NAME, -1));
                DUE.thrown("4: hurry to the least", ARGUMENT,
                    () -> x.hurry(NAME, Long.MIN_VALUE));
                DUE.answer("4: told(0) is " + last, x.told(NAME, 0), last);
                DUE.passes("4: hurry to " + last + " again", () -> x.hurry(NAME, last));
            }
        }
    }

    /** "or above what numbers go to". */
    private static void promise4AboveTheGreatest() {
        GuardedPackets x = Forge.receiver(32, false);
        for (long last : new long[] {SHORT_MOST + 1, SHORT_MOST + 2, Long.MAX_VALUE}) {
            DUE.thrown("4: short, hurry to " + last, ARGUMENT, () -> x.hurry(NAME, last));
        }
        DUE.answer("4: short, told(0)", x.told(NAME, 0), 0);
        DUE.passes("4: short, hurry to 2^32 - 1", () -> x.hurry(NAME, SHORT_MOST));
        DUE.thrown("4: short, hurry to 2^32", ARGUMENT, () -> x.hurry(NAME, SHORT_MOST + 1));
        DUE.answer("4: short, told(0) at its most", x.told(NAME, 0), SHORT_MOST);
        GuardedPackets y = Forge.receiver(32, true);
        long[] lasts = {SHORT_MOST, SHORT_MOST + 1, Long.MAX_VALUE - 1, Long.MAX_VALUE};
        for (long last : lasts) {
            DUE.passes("4: long, hurry to " + last, () -> y.hurry(NAME, last));
            DUE.answer("4: long, told(0)", y.told(NAME, 0), last);
        }
        DUE.thrown("4: long, hurry below 2^63 - 1", ARGUMENT,
            () -> y.hurry(NAME, Long.MAX_VALUE - 1));
        DUE.thrown("4: long, hurry to 2^63", ARGUMENT, () -> y.hurry(NAME, Long.MAX_VALUE + 1));
        DUE.answer("4: long, told(0) at its most", y.told(NAME, 0), Long.MAX_VALUE);
    }

    /** "bytes is below 0". */
    private static void promise5BelowZero() {
        GuardedPackets x = Forge.receiver(32, true);
        for (int bytes : new int[] {-1, -2, LEAST}) {
            DUE.thrown("5: life(" + bytes + ")", ARGUMENT, () -> x.life(NAME, bytes));
            DUE.thrown("5: life(" + bytes + ") of none", STATE, () -> x.life(NAME + 1, bytes));
            DUE.answer("5: the life stays", x.told(NAME, 5), 1000000000);
        }
        for (int bytes : new int[] {0, 1, MOST}) {
            DUE.passes("5: life(" + bytes + ")", () -> x.life(NAME, bytes));
            DUE.answer("5: told(5)", x.told(NAME, 5), bytes);
        }
    }

    /** "Answers how many it was", less what was sealed. */
    private static void promise5AnswersTheLifeBefore() {
        GuardedPackets x = Forge.receiver(32, true);
        fill(x, 200);
        x.seal(NAME, 1);
        DUE.answer("5: life behind 200 bytes", x.life(NAME, 200), 999999800);
        x.seal(NAME, 1);
        DUE.answer("5: life when it is used up", x.life(NAME, MOST), 0);
        x.seal(NAME, 1);
        DUE.answer("5: life at its most, less 200", x.life(NAME, 7), MOST - 200);
        DUE.answer("5: life of 7", x.life(NAME, 7), 7);
    }

    /** "The n lowest bytes of a long, the lowest first": what is above them is left out. */
    private static void promise6LowestBytes() {
        for (int n = 1; n <= 8; n++) {
            for (long bytes : new long[] {0xF8F7F6F5F4F3F2F1L, -1, 0, Long.MIN_VALUE}) {
                GuardedPackets x = Forge.receiver(32, true);
                DUE.answer("6: feed(" + n + ")", x.feed(n, bytes), n);
                x.seal(NAME, 1);
                x.open();
                DUE.answer("6: got of " + n, x.got(), n);
                DUE.answer("6: data of " + n, x.data(0), n == 8 ? bytes
                    : bytes & (1L << 8 * n) - 1);
            }
        }
    }

    /** "n is not 1 to 8", also when the data are full. */
    private static void promise6OneToEight() {
        for (int n : new int[] {LEAST, -8, -1, 0, 9, 16, 200, MOST}) {
            GuardedPackets x = new GuardedPackets();
            DUE.thrown("6: feed(" + n + ")", ARGUMENT, () -> x.feed(n, -1));
            DUE.answer("6: no data behind it", x.wipe(), 0);
            fill(x, 200);
            DUE.thrown("6: feed(" + n + "), when full", ARGUMENT, () -> x.feed(n, -1));
            DUE.answer("6: 200 bytes behind it", x.wipe(), 200);
        }
    }

    /** "NONE when there would be more than 200". */
    private static void promise6MoreThan200() {
        for (int n = 1; n <= 8; n++) {
            GuardedPackets x = Forge.receiver(32, true);
            fill(x, 201 - n);
            DUE.answer("6: feed(" + n + ") to 201", x.feed(n, -1), -1);
            DUE.answer("6: wipe() behind it", x.wipe(), 201 - n);
            fill(x, 200 - n);
            DUE.answer("6: feed(" + n + ") to 200", x.feed(n, 0), 200);
            DUE.answer("6: feed(1) to 201", x.feed(1, 0), -1);
            x.seal(NAME, 1);
            x.open();
            DUE.answer("6: got()", x.got(), 200);
            DUE.answer("6: the first byte", x.data(0) & 255, 1);
            DUE.answer("6: the last byte before", x.data(199 - n), 200 - n);
        }
    }

    /** "There are no data. Answers how many bytes there were." */
    private static void promise7NoneAndMost() {
        GuardedPackets x = Forge.receiver(32, true);
        for (int n : new int[] {0, 1, 199, 200, 0}) {
            fill(x, n);
            DUE.answer("7: wipe() of " + n, x.wipe(), n);
            DUE.answer("7: wipe() behind it", x.wipe(), 0);
        }
        DUE.answer("7: seal behind it", x.seal(NAME, 1), 36);
        x.open();
        DUE.answer("7: got behind it", x.got(), 0);
    }

    /** "NONE when the last number is the greatest one". */
    private static void promise8LastIsTheGreatest() {
        for (boolean extended : BOTH) {
            long most = extended ? Long.MAX_VALUE : SHORT_MOST;
            GuardedPackets x = Forge.receiver(32, extended);
            fill(x, 3);
            x.hurry(NAME, most - 2);
            DUE.answer("8: seal, two below", x.seal(NAME, 1), 40);
            DUE.answer("8: seal, one below", x.seal(NAME, 2), 40);
            long kept = x.packet(32);
            DUE.answer("8: seal, at the greatest", x.seal(NAME, 3), -1);
            DUE.answer("8: seal, once more", x.seal(NAME, 3), -1);
            DUE.answer("8: told(0)", x.told(NAME, 0), most);
            DUE.answer("8: told(5)", x.told(NAME, 5), 999999994);
            DUE.answer("8: the packet stays", x.packet(32), kept);
            x.wipe();
            DUE.answer("8: seal of no data, at the greatest", x.seal(NAME, 3), -1);
            DUE.thrown("8: a wrong next, at the greatest", ARGUMENT, () -> x.seal(NAME, -1));
        }
    }

    /** "or the data are more than the life". */
    private static void promise8MoreThanTheLife() {
        for (int n : new int[] {0, 1, 2, 199, 200}) {
            GuardedPackets x = Forge.receiver(32, true);
            fill(x, n);
            if (n > 0) {
                x.life(NAME, n - 1);
                DUE.answer("8: seal of " + n + ", life less", x.seal(NAME, 1), -1);
                DUE.answer("8: its life stays", x.told(NAME, 5), n - 1);
                DUE.answer("8: its last number stays", x.told(NAME, 0), 0);
                DUE.answer("8: no packet", x.size(), 0);
                DUE.thrown("8: a wrong next with less life", ARGUMENT, () -> x.seal(NAME, 256));
            }
            x.life(NAME, n);
            DUE.answer("8: seal of " + n + ", just the life", x.seal(NAME, 1) > 0, true);
            DUE.answer("8: no life left", x.told(NAME, 5), 0);
            DUE.answer("8: seal of " + n + " again", x.seal(NAME, 1) > 0, n == 0);
            x.life(NAME, n + 1);
            DUE.answer("8: seal of " + n + ", life more", x.seal(NAME, 1) > 0, true);
            DUE.answer("8: one byte of life left", x.told(NAME, 5), 1);
        }
    }

    /** "next is not 0 to 255", and which of both is thrown. */
    private static void promise8NextIsNoByte() {
        GuardedPackets x = Forge.receiver(32, true);
        for (int next : new int[] {LEAST, -256, -1, 256, 257, 65536, MOST}) {
            DUE.thrown("8: seal with " + next, ARGUMENT, () -> x.seal(NAME, next));
            DUE.thrown("8: seal of none with " + next, STATE, () -> x.seal(NAME + 1, next));
            DUE.answer("8: told(0) stays", x.told(NAME, 0), 0);
        }
        for (int next : new int[] {0, 255}) {
            DUE.answer("8: seal with " + next, x.seal(NAME, next), 36);
            DUE.answer("8: open of " + next, x.open(), next);
        }
    }

    /** "0 when there is none". */
    private static void promise9NoneAndMost() {
        GuardedPackets x = Forge.receiver(32, true);
        DUE.answer("9: size() of none", x.size(), 0);
        x.seal(NAME, 1);
        DUE.answer("9: size() of the least", x.size(), 36);
        fill(x, 200);
        x.seal(NAME, 1);
        DUE.answer("9: size() of the most", x.size(), 236);
        for (int n : new int[] {236, 235, 1, 0}) {
            x.cut(n);
            DUE.answer("9: size() cut to " + n, x.size(), n);
        }
    }

    /** "0 for those that it has not": before the first byte, behind the last one, and cut off. */
    private static void promise10BytesThatItHasNot() {
        GuardedPackets x = Forge.receiver(32, true);
        fill(x, 200);
        x.seal(NAME, 1);
        for (int i = 0; i < 8; i++) {
            x.spoil(i, i + 1);
            x.spoil(228 + i, i + 11);
        }
        DUE.answer("10: packet(0)", x.packet(0), 0x0807060504030201L);
        DUE.answer("10: packet(-1)", x.packet(-1), 0x0706050403020100L);
        DUE.answer("10: packet(-7)", x.packet(-7), 0x0100000000000000L);
        DUE.answer("10: packet(228)", x.packet(228), 0x1211100F0E0D0C0BL);
        DUE.answer("10: packet(229)", x.packet(229), 0x001211100F0E0D0CL);
        DUE.answer("10: packet(235)", x.packet(235), 0x12);
        for (int i : new int[] {LEAST, LEAST + 1, -9, -8, 236, 237, MOST - 8, MOST - 7, MOST}) {
            DUE.answer("10: packet(" + i + ")", x.packet(i), 0);
        }
        x.cut(235);
        DUE.answer("10: packet(228) cut", x.packet(228), 0x0011100F0E0D0C0BL);
        DUE.answer("10: packet(235) cut", x.packet(235), 0);
        x.cut(1);
        DUE.answer("10: packet(0) cut to 1", x.packet(0), 1);
        DUE.answer("10: packet(-7) cut to 1", x.packet(-7), 0x0100000000000000L);
        x.cut(0);
        DUE.answer("10: packet(0) cut to 0", x.packet(0), 0);
    }

    /** "there is no byte i", which is looked at before v. */
    private static void promise11NoSuchByte() {
        GuardedPackets none = new GuardedPackets();
        for (int i : new int[] {LEAST, -1, 0, 1, MOST}) {
            DUE.thrown("11: spoil(" + i + ") of none", BOUNDS, () -> none.spoil(i, 0));
            DUE.thrown("11: spoil(" + i + ") of none, no byte", BOUNDS, () -> none.spoil(i, 256));
        }
        GuardedPackets x = Forge.receiver(32, true);
        fill(x, 200);
        x.seal(NAME, 1);
        for (int size : new int[] {236, 37, 36, 1}) {
            x.cut(size);
            DUE.passes("11: spoil of the first of " + size, () -> x.spoil(0, 0));
            DUE.passes("11: spoil of the last of " + size, () -> x.spoil(size - 1, 0));
            for (int i : new int[] {LEAST, -1, size, size + 1, MOST}) {
                DUE.thrown("11: spoil(" + i + ") of " + size, BOUNDS, () -> x.spoil(i, 0));
                DUE.thrown("11: spoil(" + i + "), no byte", BOUNDS, () -> x.spoil(i, -1));
            }
        }
        x.cut(0);
        DUE.thrown("11: spoil(0) cut to 0", BOUNDS, () -> x.spoil(0, 0));
    }

    /** "v is not 0 to 255". */
    private static void promise11NoByteValue() {
        GuardedPackets x = Forge.receiver(32, true);
        x.seal(NAME, 1);
        for (int i : new int[] {0, 35}) {
            for (int v : new int[] {0, 1, 127, 128, 254, 255}) {
                x.spoil(i, v);
                DUE.answer("11: byte " + i, x.packet(i) & 255, v);
                DUE.answer("11: spoil of " + v, x.spoil(i, v), v);
                for (int none : new int[] {LEAST, -1, 256, 257, MOST}) {
                    DUE.thrown("11: spoil with " + none, ARGUMENT, () -> x.spoil(i, none));
                }
                DUE.answer("11: byte " + i + " stays", x.packet(i) & 255, v);
            }
        }
    }

    /** "The packet has its first n bytes alone." */
    private static void promise12FirstBytes() {
        GuardedPackets x = Forge.receiver(32, true);
        x.seal(NAME, 1);
        for (int i = 0; i < 36; i++) {
            x.spoil(i, 100 + i);
        }
        for (int n = 36; n >= 0; n--) {
            x.cut(n);
            DUE.answer("12: size() of " + n, x.size(), n);
            DUE.answer("12: the last of " + n, x.packet(n - 1) & 255, n == 0 ? 0 : 99 + n);
            DUE.answer("12: the next behind " + n, x.packet(n), 0);
            DUE.answer("12: the first of " + n, x.packet(0) & 255, n == 0 ? 0 : 100);
        }
        x.seal(NAME, 1);
        DUE.answer("12: a new packet is whole", x.size(), 36);
    }

    /** "n is below 0, or above their number". */
    private static void promise12BelowZeroOrAbove() {
        GuardedPackets none = new GuardedPackets();
        DUE.passes("12: cut(0) of none", () -> none.cut(0));
        for (int n : new int[] {LEAST, -1, 1, 36, MOST}) {
            DUE.thrown("12: cut(" + n + ") of none", ARGUMENT, () -> none.cut(n));
        }
        GuardedPackets x = Forge.receiver(32, true);
        fill(x, 200);
        x.seal(NAME, 1);
        for (int size : new int[] {236, 36, 1, 0}) {
            DUE.passes("12: cut(" + size + ")", () -> x.cut(size));
            DUE.passes("12: cut(" + size + ") again", () -> x.cut(size));
            for (int n : new int[] {LEAST, -1, size + 1, 237, MOST}) {
                DUE.thrown("12: cut(" + n + ") of " + size, ARGUMENT, () -> x.cut(n));
            }
            DUE.answer("12: size() stays", x.size(), size);
        }
    }

    /** "in place of what was there": shorter in place of longer, and the other way round. */
    private static void promise13InPlaceOfWhatWasThere() {
        GuardedPackets x = Forge.receiver(32, true);
        fill(x, 200);
        x.seal(NAME, 1);
        x.keep(4);
        x.wipe();
        x.seal(NAME, 1);
        x.keep(5);
        x.keep(4);
        DUE.answer("13: shorter in place of longer", x.bring(4), 36);
        DUE.answer("13: nothing behind it", x.packet(36), 0);
        fill(x, 200);
        x.seal(NAME, 1);
        long end = x.packet(228);
        x.keep(5);
        x.cut(0);
        x.keep(4);
        DUE.answer("13: none of its bytes in place of it", x.bring(4), 0);
        DUE.answer("13: longer in place of shorter", x.bring(5), 236);
        DUE.answer("13: its end", x.packet(228), end);
    }

    /** "place is not 0 to 7". */
    private static void promise13And14Places() {
        GuardedPackets x = Forge.receiver(32, true);
        x.seal(NAME, 1);
        for (int place : new int[] {LEAST, -8, -1, 8, 9, 16, MOST}) {
            DUE.thrown("13: keep(" + place + ")", BOUNDS, () -> x.keep(place));
            DUE.thrown("14: bring(" + place + ")", BOUNDS, () -> x.bring(place));
        }
        for (int place = 0; place < 8; place++) {
            DUE.answer("14: nothing kept at " + place, x.bring(place), -1);
            int here = place;
            x.cut(36 - place);
            DUE.passes("13: keep(" + place + ")", () -> x.keep(here));
        }
        for (int place = 0; place < 8; place++) {
            DUE.answer("14: kept at " + place, x.bring(place), 36 - place);
        }
    }

    /** "NONE when nothing is kept there", with a packet and without one. */
    private static void promise14NothingKept() {
        GuardedPackets x = Forge.receiver(32, true);
        for (int place = 0; place < 8; place++) {
            DUE.answer("14: bring(" + place + ") of a new one", x.bring(place), -1);
        }
        DUE.answer("14: size() stays 0", x.size(), 0);
        x.seal(NAME, 1);
        long bytes = x.packet(30);
        x.keep(0);
        x.keep(7);
        for (int place = 1; place < 7; place++) {
            DUE.answer("14: bring(" + place + ") beside it", x.bring(place), -1);
            DUE.answer("14: size() stays", x.size(), 36);
            DUE.answer("14: the packet stays", x.packet(30), bytes);
        }
        x.cut(0);
        DUE.answer("14: bring(1) behind a cut", x.bring(1), -1);
        DUE.answer("14: size() stays cut", x.size(), 0);
        DUE.answer("14: bring(7)", x.bring(7), 36);
        DUE.answer("14: its bytes", x.packet(30), bytes);
    }

    /** "0 when none were": never, or with a packet of no data. */
    private static void promise16NoneWereGot() {
        GuardedPackets x = Forge.receiver(32, true);
        DUE.answer("16: got() at first", x.got(), 0);
        x.seal(NAME, 1);
        DUE.answer("16: got() behind a seal", x.got(), 0);
        fill(x, 200);
        x.seal(NAME, 1);
        x.open();
        DUE.answer("16: got() of the most", x.got(), 200);
        x.wipe();
        x.seal(NAME, 1);
        x.open();
        DUE.answer("16: got() of no data", x.got(), 0);
        DUE.answer("17: data(0) of no data", x.data(0), 0);
    }

    /** With -1 to -4 what was got last stays; with -5 and -6 nothing is got any more. */
    private static void promise16StaysOrIsGone() {
        int[][] bodies = {{1, 2, 3, 7}, {1, 2, 2, 59}, {1, 2, 2, 7}, {65, 66, 0, 7}};
        int[] due = {-5, -6, 7, 7};
        int[] got = {0, 0, 0, 2};
        for (int k = 0; k < bodies.length; k++) {
            GuardedPackets x = Forge.receiver(32, true);
            x.feed(8, 0x0807060504030201L);
            x.seal(NAME, 1);
            x.open();
            DUE.answer("16: open() again", x.open(), -3);
            DUE.answer("16: got() behind -3", x.got(), 8);
            x.seal(NAME, 1);
            x.spoil(40, ~(int) x.packet(40) & 255);
            DUE.answer("16: open() of a spoilt one", x.open(), -4);
            DUE.answer("16: got() behind -4", x.got(), 8);
            x.spoil(0, 255);
            DUE.answer("16: open() of no name", x.open(), -2);
            DUE.answer("16: got() behind -2", x.got(), 8);
            x.cut(35);
            DUE.answer("16: open() of too few", x.open(), -1);
            DUE.answer("16: got() behind -1", x.got(), 8);
            DUE.answer("17: data(0) behind them all", x.data(0), 0x0807060504030201L);
            Forge.send(x, Forge.packet(true, 5, 5, bodies[k]));
            DUE.answer("16: open() of a body", x.open(), due[k]);
            DUE.answer("16: got() behind " + due[k], x.got(), got[k]);
            DUE.answer("17: data(0) behind " + due[k], x.data(0), got[k] == 2 ? 0x4241 : 0);
            DUE.answer("17: data(2) behind " + due[k], x.data(2), 0);
        }
    }

    /** "0 for those that it has not". */
    private static void promise17BytesThatItHasNot() {
        GuardedPackets x = Forge.receiver(32, true);
        fill(x, 200);
        x.seal(NAME, 1);
        x.open();
        DUE.answer("17: data(0)", x.data(0), 0x0807060504030201L);
        DUE.answer("17: data(-1)", x.data(-1), 0x0706050403020100L);
        DUE.answer("17: data(-7)", x.data(-7), 0x0100000000000000L);
        DUE.answer("17: data(192)", x.data(192), 0xC8C7C6C5C4C3C2C1L);
        DUE.answer("17: data(193)", x.data(193), 0x00C8C7C6C5C4C3C2L);
        DUE.answer("17: data(199)", x.data(199), 0xC8);
        for (int i : new int[] {LEAST, LEAST + 1, -9, -8, 200, 201, MOST - 8, MOST - 7, MOST}) {
            DUE.answer("17: data(" + i + ")", x.data(i), 0);
        }
        x.wipe();
        x.feed(1, 9);
        x.seal(NAME, 1);
        x.open();
        DUE.answer("17: data(0) of one byte", x.data(0), 9);
        DUE.answer("17: data(1) of one byte", x.data(1), 0);
        DUE.answer("17: data(-7) of one byte", x.data(-7), 9L << 56);
    }

    private static void promise18EachWhat() {
        GuardedPackets x = Forge.receiver(64, false);
        fill(x, 10);
        x.hurry(NAME, 100);
        x.seal(NAME, 1);
        x.open();
        for (int k = 0; k < 5; k++) {
            x.open();
        }
        x.seal(NAME, 1);
        x.keep(0);
        x.spoil(20, ~(int) x.packet(20) & 255);
        for (int k = 0; k < 3; k++) {
            x.open();
        }
        x.bring(0);
        x.open();
        x.hurry(NAME, 500);
        long[] due = {500, 102, 2, 5, 3, 999999980, 64, 0};
        for (int what = 0; what < 8; what++) {
            DUE.answer("18: told(" + what + ")", x.told(NAME, what), due[what]);
        }
    }

    /** "another what", and no association at all. */
    private static void promise18AnotherWhat() {
        GuardedPackets x = Forge.receiver(32, true);
        for (int what : new int[] {LEAST, -8, -1, 8, 9, 256, MOST}) {
            DUE.thrown("18: told(" + what + ")", ARGUMENT, () -> x.told(NAME, what));
            DUE.thrown("18: told of none, " + what, STATE, () -> x.told(NAME - 1, what));
        }
        for (int name : new int[] {LEAST, -1, 0, 255, 256, NAME - 1, NAME + 1, MOST}) {
            DUE.thrown("18: told of " + name, STATE, () -> x.told(name, 0));
            DUE.thrown("19: given of " + name, STATE, () -> x.given(name, 0));
            DUE.thrown("4: hurry of " + name, STATE, () -> x.hurry(name, 0));
            DUE.thrown("5: life of " + name, STATE, () -> x.life(name, 0));
            DUE.thrown("8: seal of " + name, STATE, () -> x.seal(name, 0));
        }
    }

    private static void promise18NumbersAtTheirMost() {
        GuardedPackets x = Forge.receiver(32, false);
        x.hurry(NAME, SHORT_MOST - 1);
        x.seal(NAME, 1);
        x.open();
        DUE.answer("18: the last number 2^32 - 1", x.told(NAME, 0), SHORT_MOST);
        DUE.answer("18: the top 2^32 - 1", x.told(NAME, 1), SHORT_MOST);
        GuardedPackets y = Forge.receiver(32, true);
        y.seal(NAME, 1);
        y.open();
        y.hurry(NAME, SHORT_MOST - 32);
        y.seal(NAME, 1);
        y.open();
        y.hurry(NAME, SHORT_MOST);
        y.seal(NAME, 1);
        DUE.answer("18: open() of 2^32", y.open(), 1);
        DUE.answer("18: the top 2^32", y.told(NAME, 1), SHORT_MOST + 1);
        y.hurry(NAME, Long.MAX_VALUE);
        DUE.answer("18: the last number 2^63 - 1", y.told(NAME, 0), Long.MAX_VALUE);
        DUE.answer("18: the top stays", y.told(NAME, 1), SHORT_MOST + 1);
    }

    /** "i is below 0". */
    private static void promise19BelowZero() {
        GuardedPackets x = Forge.receiver(1024, true);
        x.seal(NAME, 1);
        x.open();
        for (int i : new int[] {LEAST, -64, -1}) {
            DUE.thrown("19: given(" + i + ")", ARGUMENT, () -> x.given(NAME, i));
            DUE.thrown("19: given(" + i + ") of none", STATE, () -> x.given(NAME + 1, i));
        }
        DUE.answer("19: given(0)", x.given(NAME, 0), 1);
        for (int i : new int[] {1, 63, 64, 1023, 1024, MOST - 63, MOST}) {
            DUE.answer("19: given(" + i + ")", x.given(NAME, i), 0);
        }
    }

    /** Opens each number from 1 to n. */
    private static GuardedPackets allGiven(int window, int n) {
        GuardedPackets x = Forge.receiver(window, true);
        for (int k = 0; k < n; k++) {
            x.seal(NAME, 1);
            x.open();
        }
        return x;
    }

    /** "that of the top less i as the lowest, and 63 more". */
    private static void promise19FromTheTopDown() {
        GuardedPackets x = allGiven(1024, 130);
        for (int i = 0; i <= 140; i++) {
            int left = Math.max(0, 130 - i);
            DUE.answer("19: given(" + i + ") of 130", x.given(NAME, i),
                left >= 64 ? -1 : (1L << left) - 1);
        }
        GuardedPackets y = Forge.receiver(1024, true);
        for (int number : new int[] {1, 64, 65, 128}) {
            y.hurry(NAME, number - 1);
            y.seal(NAME, 1);
            y.open();
        }
        DUE.answer("19: the top and the 63rd below", y.given(NAME, 0), Long.MIN_VALUE | 1);
        DUE.answer("19: the 63rd and 64th below", y.given(NAME, 63), 3);
        DUE.answer("19: the 64th and the 127th below", y.given(NAME, 64), Long.MIN_VALUE | 1);
        DUE.answer("19: the 127th below", y.given(NAME, 127), 1);
        DUE.answer("19: the 128th below", y.given(NAME, 128), 0);
        y.hurry(NAME, 191);
        y.seal(NAME, 1);
        y.open();
        DUE.answer("19: 64 below the lowest is one too many", y.given(NAME, 63), 2);
    }

    /** "those not above T - W are 0", though they were given out. */
    private static void promise19NotAboveTopLessWindow() {
        for (int window : new int[] {32, 64, 96}) {
            GuardedPackets x = allGiven(window, 200);
            for (int i = 0; i <= 100; i++) {
                int left = Math.max(0, window - i);
                DUE.answer("19: given(" + i + ") with W = " + window, x.given(NAME, i),
                    left >= 64 ? -1 : (1L << left) - 1);
            }
        }
        for (int window = 32; window <= 1024; window += 32) {
            GuardedPackets x = Forge.receiver(window, true);
            x.seal(NAME, 1);
            x.open();
            x.hurry(NAME, window - 1);
            x.seal(NAME, 1);
            x.open();
            DUE.answer("19: T - W + 1 with W = " + window, x.given(NAME, window - 1), 1);
            x.seal(NAME, 1);
            x.open();
            DUE.answer("19: T - W with W = " + window, x.given(NAME, window), 0);
            DUE.answer("19: T - W + 1 now", x.given(NAME, window - 1), 0);
            DUE.answer("19: the two above", x.given(NAME, 0), 3);
        }
    }

    /** With a top below W, what is below 1 was never given out. */
    private static void promise19BelowOne() {
        for (int window : new int[] {32, 1024}) {
            for (int top : new int[] {0, 1, 2, 31}) {
                GuardedPackets x = allGiven(window, top);
                DUE.answer("19: given(0) of " + top, x.given(NAME, 0), (1L << top) - 1);
                DUE.answer("19: given(T) of " + top, x.given(NAME, top), 0);
                DUE.answer("19: given(T + 1) of " + top, x.given(NAME, top + 1), 0);
            }
        }
    }

    /** "NONE when there are not so many." */
    private static void promise20NotSoMany() {
        GuardedPackets x = new GuardedPackets();
        for (int count = 0; count <= 16; count++) {
            for (int i : new int[] {LEAST, -1, count, count + 1, 16, 17, MOST}) {
                DUE.answer("20: name(" + i + ") of " + count, x.name(i), -1);
            }
            if (count > 0) {
                DUE.answer("20: name(0) of " + count, x.name(0), 5016 - count);
                DUE.answer("20: the last of " + count, x.name(count - 1), 5015);
            }
            x.add(5015 - count, 1, 2, 3, 32, true);
        }
    }
}
