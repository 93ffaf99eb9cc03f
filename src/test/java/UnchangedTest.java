import java.util.LinkedHashMap;
import java.util.Map;
import java.util.function.Consumer;
import java.util.function.Supplier;
import java.util.function.ToLongFunction;

/**
 * "a call that throws, or answers NONE or false, changes nothing": each refused call is made on one
 * of two objects of the same past; whatever can be seen of both afterwards is the same. The calls
 * that just look, and open with each of its answers, are measured in the same way.
 */
public final class UnchangedTest {
    private static final String ARGUMENT = "throws.IllegalArgumentException";
    private static final String STATE = "throws.IllegalStateException";
    private static final String BOUNDS = "throws.IndexOutOfBoundsException";
    private static final String NOTHING = "";
    private static final Due DUE = new Due("UnchangedTest");
    private static final int NAME = Forge.NAME;
    private static final int LEAST = Integer.MIN_VALUE;
    private static final int MOST = Integer.MAX_VALUE;
    private static final long SHORT_MOST = 4294967295L;

    private UnchangedTest() {
    }

    public static void main(String[] args) {
        refusedAdds();
        refusedDrops();
        refusedHurries();
        refusedLives();
        refusedFeeds();
        refusedSeals();
        refusedSpoils();
        refusedCuts();
        refusedKeepsAndBrings();
        refusedQuestions();
        looks();
        opens();
        DUE.finish();
    }

    /** All that can be seen of an object, in some 360 calls, which leave it useless. */
    private static Map<String, Long> seen(GuardedPackets x) {
        Map<String, Long> seen = new LinkedHashMap<>();
        int count = 0;
        for (int i = 0; i < 17; i++) {
            seen.put("name(" + i + ")", (long) x.name(i));
            count += x.name(i) == GuardedPackets.NONE ? 0 : 1;
        }
        int[] names = new int[count];
        for (int i = 0; i < count; i++) {
            names[i] = x.name(i);
            for (int what = 0; what < 8; what++) {
                seen.put("told(" + names[i] + ", " + what + ")", x.told(names[i], what));
            }
            seen.put("given(" + names[i] + ", 0)", x.given(names[i], 0));
        }
        seen.put("got()", (long) x.got());
        for (int i = 0; i < 208; i += 8) {
            seen.put("data(" + i + ")", x.data(i));
        }
        look(seen, "packet", x, 8);
        for (int place = 0; place < 8; place++) {
            seen.put("bring(" + place + ")", (long) x.bring(place));
            look(seen, "kept at " + place, x, 60);
        }
        // The packets tell the data, and of each association the key, the salt and the number.
        for (int name : names) {
            seen.put("seal(" + name + ")", (long) x.seal(name, 5));
            seen.put("the seal of " + name, x.packet(x.size() - 8));
        }
        seen.put("wipe()", (long) x.wipe());
        return seen;
    }

    private static void look(Map<String, Long> seen, String what, GuardedPackets x, int step) {
        seen.put(what + ": size", (long) x.size());
        for (int i = 0; i < 236; i += step) {
            seen.put(what + ": from " + i, x.packet(i));
        }
    }

    /** What differs between two objects, as text. */
    private static String changes(GuardedPackets before, GuardedPackets after) {
        Map<String, Long> old = seen(before);
        Map<String, Long> now = seen(after);
        StringBuilder s = new StringBuilder();
        for (String key : now.keySet()) {
            if (!now.get(key).equals(old.get(key))) {
                s.append(s.length() == 0 ? "" : "; ").append(key).append(" from ")
                    .append(old.get(key)).append(" to ").append(now.get(key));
            }
        }
        return s.append(old.keySet().equals(now.keySet()) ? "" : "; other names").toString();
    }

    /** A call on one of two objects of the same past, its answer, and what it changed. */
    private static void call(String what, Supplier<GuardedPackets> scene,
            ToLongFunction<GuardedPackets> call, String answer, String changes) {
        GuardedPackets x = scene.get();
        DUE.text(what, Due.outcome(() -> call.applyAsLong(x)), answer);
        DUE.text(what + " changed", changes(scene.get(), x), changes);
    }

    private static void refused(String what, String answer, ToLongFunction<GuardedPackets> call) {
        call(what + " of a full one", UnchangedTest::full, call, answer, NOTHING);
    }

    private static void refusedDeed(String what, String answer, Consumer<GuardedPackets> deed) {
        refused(what, answer, x -> {
            deed.accept(x);
            return 0;
        });
    }

    /** Sixteen associations, data, a packet, packets kept at some places, and something got. */
    private static GuardedPackets full() {
        GuardedPackets x = new GuardedPackets();
        for (int k = 0; k < 16; k++) {
            x.add(1000 + 10 * k, 7 * k, -k, 99 - k, 32 + 32 * k, k % 2 == 0);
        }
        x.feed(5, 0x0504030201L);
        for (int k = 0; k < 3; k++) {
            x.seal(1000 + 10 * k, 20 + k);
            x.keep(2 * k);
            x.open();
            x.open();
        }
        for (int k = 0; k < 24; k++) {
            x.feed(8, 0x1112131415161718L * k);
        }
        x.hurry(1000, 40);
        x.life(1010, 500);
        x.seal(1000, 7);
        x.spoil(18, 0);
        x.open();
        x.cut(0);
        x.keep(7);
        x.seal(1000, 8);
        return x;
    }

    /** 197 bytes of data; one association at 2^63 - 1, one at 2^32 - 1, and one with less life. */
    private static GuardedPackets ended() {
        GuardedPackets x = new GuardedPackets();
        for (int k = 0; k < 24; k++) {
            x.feed(8, k);
        }
        x.feed(5, -1);
        x.add(300, 1, 2, 3, 32, true);
        x.add(400, 4, 5, 6, 32, false);
        x.add(500, 7, 8, 9, 32, true);
        x.hurry(300, Long.MAX_VALUE - 1);
        x.seal(300, 1);
        x.hurry(400, SHORT_MOST - 1);
        x.seal(400, 1);
        x.life(500, 196);
        x.hurry(500, 11);
        return x;
    }

    private static void refusedAdds() {
        for (int name : new int[] {LEAST, -1, 0, 255}) {
            refused("add of " + name, ARGUMENT, x -> x.add(name, 1, 2, 3, 32, true) ? 1 : 0);
        }
        for (int window : new int[] {LEAST, -32, 0, 31, 33, 1023, 1025, 1056, MOST}) {
            refused("add with " + window, ARGUMENT,
                x -> x.add(2000, 1, 2, 3, window, true) ? 1 : 0);
            call("add with " + window + " to three", UnchangedTest::ended,
                x -> x.add(2000, 1, 2, 3, window, true) ? 1 : 0, ARGUMENT, NOTHING);
        }
        for (int name : new int[] {256, 1000, 1005, 1150, MOST}) {
            refused("add to 16 of " + name, "0", x -> x.add(name, 1, 2, 3, 1024, false) ? 1 : 0);
        }
        for (int name : new int[] {300, 400, 500}) {
            call("add again of " + name, UnchangedTest::ended,
                x -> x.add(name, 1, 2, 3, 1024, false) ? 1 : 0, "0", NOTHING);
        }
    }

    private static void refusedDrops() {
        for (int name : new int[] {LEAST, -1, 0, 256, 999, 1001, 1149, 1151, MOST}) {
            refused("drop of " + name, "0", x -> x.drop(name) ? 1 : 0);
            call("drop of " + name + " from none", GuardedPackets::new,
                x -> x.drop(name) ? 1 : 0, "0", NOTHING);
        }
    }

    private static void refusedHurries() {
        for (long last : new long[] {Long.MIN_VALUE, -1, 0, 41, SHORT_MOST + 1, Long.MAX_VALUE}) {
            refusedDeed("hurry of none to " + last, STATE, x -> x.hurry(1001, last));
        }
        for (long last : new long[] {Long.MIN_VALUE, -1, 0, 40}) {
            refusedDeed("hurry to " + last, ARGUMENT, x -> x.hurry(1000, last));
        }
        for (long last : new long[] {Long.MIN_VALUE, 0, SHORT_MOST + 1, Long.MAX_VALUE}) {
            refusedDeed("short hurry to " + last, ARGUMENT, x -> x.hurry(1010, last));
        }
        for (long last : new long[] {SHORT_MOST - 1, SHORT_MOST + 1}) {
            call("hurry at 2^32 - 1 to " + last, UnchangedTest::ended, x -> {
                x.hurry(400, last);
                return 0;
            }, ARGUMENT, NOTHING);
        }
        call("hurry at 2^63 - 1", UnchangedTest::ended, x -> {
            x.hurry(300, Long.MAX_VALUE - 1);
            return 0;
        }, ARGUMENT, NOTHING);
    }

    private static void refusedLives() {
        for (int bytes : new int[] {LEAST, -1, 0, 1, MOST}) {
            refused("life of none " + bytes, STATE, x -> x.life(1001, bytes));
        }
        for (int bytes : new int[] {LEAST, -1}) {
            refused("life " + bytes, ARGUMENT, x -> x.life(1010, bytes));
        }
    }

    private static void refusedFeeds() {
        for (int n : new int[] {LEAST, -1, 0, 9, MOST}) {
            refused("feed " + n, ARGUMENT, x -> x.feed(n, -1));
            call("feed " + n + " to none", GuardedPackets::new, x -> x.feed(n, -1), ARGUMENT,
                NOTHING);
        }
        for (int n = 4; n <= 8; n++) {
            int bytes = n;
            refused("feed " + n + " to 197", "-1", x -> x.feed(bytes, -1));
            call("feed " + n + " to 197 of three", UnchangedTest::ended, x -> x.feed(bytes, -1),
                "-1", NOTHING);
        }
    }

    private static void refusedSeals() {
        for (int next : new int[] {LEAST, -1, 0, 255, 256, MOST}) {
            refused("seal of none with " + next, STATE, x -> x.seal(1001, next));
        }
        for (int next : new int[] {LEAST, -1, 256, MOST}) {
            refused("seal with " + next, ARGUMENT, x -> x.seal(1000, next));
            for (int name : new int[] {300, 400, 500}) {
                call("seal by " + name + " with " + next, UnchangedTest::ended,
                    x -> x.seal(name, next), ARGUMENT, NOTHING);
            }
        }
        for (int name : new int[] {300, 400, 500}) {
            call("seal by " + name, UnchangedTest::ended, x -> x.seal(name, 9), "-1", NOTHING);
        }
    }

    private static void refusedSpoils() {
        for (int i : new int[] {LEAST, -1, 232, 236, MOST}) {
            refused("spoil of byte " + i, BOUNDS, x -> x.spoil(i, 0));
            refused("spoil of byte " + i + ", no byte", BOUNDS, x -> x.spoil(i, 256));
        }
        for (int v : new int[] {LEAST, -1, 256, MOST}) {
            refused("spoil with " + v, ARGUMENT, x -> x.spoil(0, v));
            refused("spoil of the last with " + v, ARGUMENT, x -> x.spoil(231, v));
        }
        call("spoil of none", GuardedPackets::new, x -> x.spoil(0, 1), BOUNDS, NOTHING);
    }

    private static void refusedCuts() {
        for (int n : new int[] {LEAST, -1, 233, MOST}) {
            refusedDeed("cut to " + n, ARGUMENT, x -> x.cut(n));
        }
        call("cut of none", GuardedPackets::new, x -> {
            x.cut(1);
            return 0;
        }, ARGUMENT, NOTHING);
    }

    private static void refusedKeepsAndBrings() {
        for (int place : new int[] {LEAST, -1, 8, MOST}) {
            refusedDeed("keep at " + place, BOUNDS, x -> x.keep(place));
            refused("bring from " + place, BOUNDS, x -> x.bring(place));
        }
        for (int place : new int[] {1, 3, 5, 6}) {
            refused("bring of nothing from " + place, "-1", x -> x.bring(place));
        }
        for (int place = 0; place < 8; place++) {
            int here = place;
            call("bring of nothing from " + place + " to none", GuardedPackets::new,
                x -> x.bring(here), "-1", NOTHING);
        }
    }

    private static void refusedQuestions() {
        for (int what : new int[] {LEAST, -1, 8, MOST}) {
            refused("told " + what, ARGUMENT, x -> x.told(1000, what));
            refused("told of none " + what, STATE, x -> x.told(1001, what));
        }
        for (int i : new int[] {LEAST, -1}) {
            refused("given " + i, ARGUMENT, x -> x.given(1000, i));
            refused("given of none " + i, STATE, x -> x.given(1001, i));
        }
        for (int i : new int[] {LEAST, -1, 16, MOST}) {
            refused("name " + i, "-1", x -> x.name(i));
        }
    }

    private static void looks() {
        refused("size()", "232", GuardedPackets::size);
        refused("got()", "5", GuardedPackets::got);
        refused("data(0)", Long.toString(0x0504030201L), x -> x.data(0));
        refused("packet(0)", Long.toString(0x2A000000E8030000L), x -> x.packet(0));
        refused("name(15)", "1150", x -> x.name(15));
        refused("given", "1", x -> x.given(1000, 0));
        for (int k = 0; k < 8; k++) {
            int what = k;
            long[] due = {42, 1, 1, 1, 1, 999999601, 32, 1};
            refused("told " + what, Long.toString(due[what]), x -> x.told(1000, what));
        }
    }

    /** An object with something got from the number 1, and a packet with the number 3. */
    private static Supplier<GuardedPackets> received(int... body) {
        return () -> {
            GuardedPackets x = Forge.receiver(32, true);
            x.feed(2, 0x0605);
            x.seal(NAME, 1);
            x.open();
            Forge.send(x, Forge.packet(true, 3, 3, body));
            return x;
        };
    }

    /** The same with a byte of the packet spoilt. */
    private static Supplier<GuardedPackets> spoilt(int i, int v) {
        return () -> {
            GuardedPackets x = received(65, 66, 0, 7).get();
            x.spoil(i, v);
            return x;
        };
    }

    private static String told(int what, long from, long to) {
        return "told(" + NAME + ", " + what + ") from " + from + " to " + to;
    }

    /** What open changes, answer by answer, and nothing beside it. */
    private static void opens() {
        String out = told(1, 1, 3) + "; " + told(2, 1, 2) + "; given(" + NAME + ", 0) from 1 to 5";
        String gone = out + "; got() from 2 to 0; data(0) from 1541 to 0";
        ToLongFunction<GuardedPackets> open = GuardedPackets::open;
        call("open of none", GuardedPackets::new, open, "-1", NOTHING);
        call("open: -1", () -> {
            GuardedPackets x = received(65, 66, 0, 7).get();
            x.cut(35);
            return x;
        }, open, "-1", NOTHING);
        call("open: -2", spoilt(0, 1), open, "-2", NOTHING);
        call("open: -3", spoilt(7, 1), open, "-3", told(3, 0, 1));
        call("open: -3 below 1", spoilt(7, 0), open, "-3", told(3, 0, 1));
        call("open: -4", spoilt(7, 2), open, "-4", told(4, 0, 1));
        call("open: -5", received(1, 2, 3, 7), open, "-5", gone);
        call("open: -6", received(65, 66, 0, 59), open, "-6", gone);
        call("open: NEXT", received(65, 66, 0, 7), open, "7", out + "; data(0) from 1541 to 16961");
        call("open: NEXT, no data", received(1, 2, 2, 7), open, "7", gone);
        call("open: NEXT, one more", received(65, 66, 67, 68, 69, 1, 1, 7), open, "7",
            out + "; got() from 2 to 5; data(0) from 1541 to " + 0x4544434241L);
    }
}
