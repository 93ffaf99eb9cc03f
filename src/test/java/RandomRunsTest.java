import java.nio.ByteBuffer;
import java.util.Random;

/** Runs of calls, chosen with fixed seeds, on the class and on the model: the answers are equal. */
public final class RandomRunsTest {
    private static final int RUNS = 400;
    private static final int MOST_CALLS = 512;
    private static final int ACTING_CALLS = 330;
    private static final int[] NAMES = {256, 257, 300, 65536, 16777216, 2147483647};
    private static final int[] ODD_INTS = {
        -1, 0, 1, 7, 8, 9, 31, 32, 63, 64, 200, 255, 256, Integer.MAX_VALUE, Integer.MIN_VALUE};

    private static final Due DUE = new Due("RandomRunsTest");
    private static final int[] OPENED = new int[7];

    private final int run;
    private final Random random;
    private final GuardedPackets x = new GuardedPackets();
    private final Model m = new Model();
    private int calls = 0;

    private RandomRunsTest(int run) {
        this.run = run;
        this.random = new Random(run);
    }

    public static void main(String[] args) {
        for (int run = 1; run <= RUNS; run++) {
            new RandomRunsTest(run).go();
        }
        for (int k = 0; k < OPENED.length; k++) {
            DUE.answer("some run's open was " + (k == 0 ? "NEXT" : "-" + k), OPENED[k] > 0, true);
        }
        DUE.finish();
    }

    private void both(String call, Due.Call ours, Due.Call theirs) {
        if (calls >= MOST_CALLS) {
            return;
        }
        calls++;
        String want = Due.outcome(theirs);
        DUE.text("run " + run + " call " + calls + " " + call, Due.outcome(ours), want);
        if (call.equals("open()")) {
            OPENED[Math.max(0, -Integer.parseInt(want))]++;
        }
    }

    private void go() {
        int associations = 1 + random.nextInt(run % 10 == 0 ? 20 : 4);
        for (int i = 0; i < associations; i++) {
            add();
        }
        while (calls < ACTING_CALLS) {
            act();
        }
        look();
    }

    private void act() {
        int choice = random.nextInt(100);
        if (choice < 3) {
            add();
        } else if (choice < 4) {
            drop();
        } else if (choice < 10) {
            hurry();
        } else if (choice < 12) {
            life();
        } else if (choice < 22) {
            feed();
        } else if (choice < 24) {
            both("wipe()", x::wipe, m::wipe);
        } else if (choice < 42) {
            seal();
        } else if (choice < 46) {
            spoil();
        } else if (choice < 48) {
            cut();
        } else if (choice < 54) {
            int place = place();
            both("keep", () -> deed(() -> x.keep(place)), () -> deed(() -> m.keep(place)));
        } else if (choice < 62) {
            int place = place();
            both("bring", () -> x.bring(place), () -> m.bring(place));
        } else if (choice < 86) {
            both("open()", x::open, m::open);
        } else if (choice < 90) {
            forge();
        } else {
            glance();
        }
    }

    private static long deed(Due.Deed deed) {
        deed.go();
        return 0;
    }

    private int oddInt() {
        return ODD_INTS[random.nextInt(ODD_INTS.length)];
    }

    private int place() {
        return random.nextInt(12) == 0 ? oddInt() : random.nextInt(8);
    }

    /** Mostly the name of an association that is there. */
    private int name() {
        if (!m.entries.isEmpty() && random.nextInt(12) != 0) {
            Object[] names = m.entries.keySet().toArray();
            return (Integer) names[random.nextInt(names.length)];
        }
        return NAMES[random.nextInt(NAMES.length)];
    }

    private void add() {
        int name = random.nextInt(4) == 0 ? 256 + random.nextInt(20)
            : random.nextInt(10) == 0 ? oddInt() : NAMES[random.nextInt(NAMES.length)];
        long high = random.nextLong();
        long low = random.nextLong();
        int salt = random.nextInt();
        int window = random.nextInt(10) == 0 ? oddInt()
            : random.nextInt(3) == 0 ? 32 * (1 + random.nextInt(33)) : 32 * (1 + random.nextInt(3));
        boolean extended = random.nextBoolean();
        both("add", () -> x.add(name, high, low, salt, window, extended) ? 1 : 0,
            () -> m.add(name, high, low, salt, window, extended) ? 1 : 0);
    }

    private void drop() {
        int name = name();
        both("drop", () -> x.drop(name) ? 1 : 0, () -> m.drop(name) ? 1 : 0);
    }

    private void hurry() {
        int name = name();
        long last = lastFor(m.entries.get(name));
        both("hurry(" + name + ", " + last + ")", () -> deed(() -> x.hurry(name, last)),
            () -> deed(() -> m.hurry(name, last)));
    }

    /** Steps that a window bears, that it does not, and, for the extended, past 2^32 and more. */
    private long lastFor(Model.Entry e) {
        if (e == null) {
            return random.nextLong();
        }
        switch (random.nextInt(12)) {
            case 0:
                return e.last - 1;
            case 1:
                return e.greatest().longValueExact() - random.nextInt(3);
            case 2:
                return e.greatest().longValue() + 1;
            case 3:
                return e.extended ? e.top - e.window + (1L << 32) - 1 + random.nextInt(3) - 1
                    : e.last + random.nextInt(1000000);
            case 4:
                return e.extended ? e.last + (1L << 32) - random.nextInt(200) : e.last;
            case 5:
                return e.top + e.window + random.nextInt(3) - 2;
            default:
                return e.last + random.nextInt(2 * e.window);
        }
    }

    private void life() {
        int name = name();
        int bytes = random.nextInt(3) == 0 ? oddInt() : random.nextInt(1000);
        both("life", () -> x.life(name, bytes), () -> m.life(name, bytes));
    }

    private void feed() {
        int n = random.nextInt(12) == 0 ? oddInt() : 1 + random.nextInt(8);
        long bytes = random.nextLong();
        both("feed", () -> x.feed(n, bytes), () -> m.feed(n, bytes));
    }

    private void seal() {
        int name = name();
        int next = random.nextInt(12) == 0 ? oddInt()
            : random.nextInt(12) == 0 ? 59 : random.nextInt(256);
        both("seal", () -> x.seal(name, next), () -> m.seal(name, next));
        if (random.nextInt(3) == 0) {
            int place = place();
            both("keep", () -> deed(() -> x.keep(place)), () -> deed(() -> m.keep(place)));
        }
    }

    private void spoil() {
        int i = random.nextInt(12) == 0 ? oddInt()
            : random.nextInt(2) == 0 ? random.nextInt(16) : random.nextInt(m.size() + 1);
        int v = random.nextInt(12) == 0 ? oddInt() : random.nextInt(256);
        spoil(i, v);
    }

    private void spoil(int i, int v) {
        both("spoil(" + i + ", " + v + ")", () -> x.spoil(i, v), () -> m.spoil(i, v));
    }

    private void cut() {
        int n = random.nextInt(4) == 0 ? oddInt()
            : random.nextInt(2) == 0 ? random.nextInt(m.size() + 1) : m.size() - 4;
        cut(n);
    }

    private void cut(int n) {
        both("cut(" + n + ")", () -> deed(() -> x.cut(n)), () -> deed(() -> m.cut(n)));
    }

    /** A packet that no sender makes: another body, number or carried bytes, with a right seal. */
    private void forge() {
        Model.Entry e = m.entries.get(name());
        int room = m.size() - 32;
        if (e == null || room < 4 || calls + 60 > MOST_CALLS) {
            return;
        }
        byte[] plain = new byte[Math.min(4 * (1 + random.nextInt(3)), room / 4 * 4)];
        random.nextBytes(plain);
        int fill = random.nextInt(plain.length + 1);
        plain[plain.length - 2] = (byte) fill;
        for (int k = 1; k <= fill && k <= plain.length - 2; k++) {
            plain[Math.max(0, plain.length - 2 - fill) + k - 1] = (byte) k;
        }
        if (random.nextInt(4) == 0) {
            plain[random.nextInt(plain.length)] ^= (byte) (1 << random.nextInt(8));
        }
        if (random.nextInt(5) == 0) {
            plain[plain.length - 1] = 59;
        }
        long near = e.top + random.nextInt(2 * e.window + 8) - e.window - 4;
        long number = e.number((int) near).longValue();
        long carried = random.nextBoolean() ? number : random.nextLong();
        byte[] forged = Crypto.packet(e.key, e.name, e.salt, e.extended, number, carried, plain);
        cut(forged.length);
        ByteBuffer wanted = ByteBuffer.wrap(forged);
        for (int i = 0; i < forged.length; i++) {
            if (m.packet[i] != wanted.get(i)) {
                spoil(i, wanted.get(i) & 255);
            }
        }
        both("open()", x::open, m::open);
    }

    private void glance() {
        int name = name();
        int i = random.nextInt(3) == 0 ? oddInt() : random.nextInt(240) - 10;
        int what = random.nextInt(6) == 0 ? oddInt() : random.nextInt(8);
        switch (random.nextInt(7)) {
            case 0:
                both("size()", x::size, m::size);
                break;
            case 1:
                both("packet(" + i + ")", () -> x.packet(i), () -> m.packet(i));
                break;
            case 2:
                both("got()", x::got, m::got);
                break;
            case 3:
                both("data(" + i + ")", () -> x.data(i), () -> m.data(i));
                break;
            case 4:
                both("told", () -> x.told(name, what), () -> m.told(name, what));
                break;
            case 5:
                both("given(" + name + ", " + i + ")", () -> x.given(name, i),
                    () -> m.given(name, i));
                break;
            default:
                both("name", () -> x.name(what), () -> m.name(what));
                break;
        }
    }

    /** What the run has led to, as far as the calls that are left can tell. */
    private void look() {
        both("size()", x::size, m::size);
        both("got()", x::got, m::got);
        for (int i = 0; i < 17; i++) {
            int at = i;
            both("name(" + at + ")", () -> x.name(at), () -> m.name(at));
        }
        for (int i = 0; i < 240; i += 8) {
            int at = i;
            both("packet(" + at + ")", () -> x.packet(at), () -> m.packet(at));
            both("data(" + at + ")", () -> x.data(at), () -> m.data(at));
        }
        for (int name : m.entries.keySet()) {
            for (int k = 0; k < 8; k++) {
                int what = k;
                both("told(" + name + ", " + what + ")", () -> x.told(name, what),
                    () -> m.told(name, what));
            }
            both("given(" + name + ", 0)", () -> x.given(name, 0), () -> m.given(name, 0));
            both("given(" + name + ", 30)", () -> x.given(name, 30), () -> m.given(name, 30));
        }
    }
}
