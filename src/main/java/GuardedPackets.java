/**
 * Packets guarded on their way: sealed with a cipher that also makes a check, numbered, sent,
 * spoilt, kept and sent again; whoever opens them gives out each one at most once, only if its
 * check is right, and knows the full number of which a packet tells just the lowest bits.
 */
public final class GuardedPackets {
    public static final int NONE = -1;

    private static final int MOST_ASSOCIATIONS = 16;
    private static final int LEAST_NAME = 256;
    private static final int LEAST_WINDOW = 32;
    private static final int MOST_WINDOW = 1024;
    private static final int PLACES = 8;

    private static final int MOST_DATA = 200;
    private static final int HEAD = 16;
    private static final int SEAL = 16;
    private static final int LEAST_BODY = 4;
    private static final int MOST_BODY = 204;

    private static final int NUMBER_AT = 4;
    private static final int CARRIED_AT = 8;
    private static final int NO_NEXT = 59;

    private static final int MISSHAPEN = -1;
    private static final int UNKNOWN = -2;
    private static final int STALE = -3;
    private static final int WRONG_SEAL = -4;
    private static final int WRONG_FILL = -5;
    private static final int DUMMY = -6;

    /** The first ones, as many as count says, are in use and stand in the order of their names. */
    private final Association[] associations = new Association[MOST_ASSOCIATIONS];
    private int count = 0;

    private final Row fed = new Row(MOST_DATA);
    private final Row sent = new Row(HEAD + MOST_BODY + SEAL);
    private final Row[] places = new Row[PLACES];
    private final Row plain = new Row(MOST_BODY);
    private final Row gained = new Row(MOST_BODY);
    private final Check check = new Check();

    public GuardedPackets() {
        for (int i = 0; i < MOST_ASSOCIATIONS; i++) {
            associations[i] = new Association();
        }
        for (int i = 0; i < PLACES; i++) {
            places[i] = new Row(HEAD + MOST_BODY + SEAL);
        }
    }

    public boolean add(int name, long high, long low, int salt, int window, boolean extended)
            throws IllegalArgumentException {
        if (name < LEAST_NAME || !isWindow(window)) {
            throw new IllegalArgumentException();
        }
        int at = placeOf(name);
        if (count >= MOST_ASSOCIATIONS || isAt(at, name)) {
            return false;
        }
        Association fresh = associations[count];
        for (int i = count; i > at; i--) {
            associations[i] = associations[i - 1];
        }
        associations[at] = fresh;
        count++;
        fresh.begin(name, salt, window, extended);
        fresh.takeKey(high, low);
        return true;
    }

    public boolean drop(int name) {
        int at = placeOf(name);
        if (!isAt(at, name)) {
            return false;
        }
        // The one that is gone stays behind the others, to be used again by the next add.
        Association gone = associations[at];
        count--;
        for (int i = at; i < count; i++) {
            associations[i] = associations[i + 1];
        }
        associations[count] = gone;
        return true;
    }

    public void hurry(int name, long last) throws IllegalStateException, IllegalArgumentException {
        Association a = known(name);
        if (last < a.last || last > a.greatest()) {
            throw new IllegalArgumentException();
        }
        a.last = last;
    }

    public int life(int name, int bytes) throws IllegalStateException, IllegalArgumentException {
        Association a = known(name);
        if (bytes < 0) {
            throw new IllegalArgumentException();
        }
        int before = a.lifeLeft;
        a.lifeLeft = bytes;
        return before;
    }

    public int feed(int n, long bytes) throws IllegalArgumentException {
        if (n < 1 || n > 8) {
            throw new IllegalArgumentException();
        }
        if (fed.length + n > MOST_DATA) {
            return NONE;
        }
        for (int k = 0; k < n; k++) {
            fed.append((int) (bytes >>> (8 * k)));
        }
        return fed.length;
    }

    public int wipe() {
        int before = fed.length;
        fed.shorten(0);
        return before;
    }

    public int seal(int name, int next) throws IllegalStateException, IllegalArgumentException {
        Association a = known(name);
        if (!isByte(next)) {
            throw new IllegalArgumentException();
        }
        if (a.last >= a.greatest() || fed.length > a.lifeLeft) {
            return NONE;
        }
        a.last++;
        a.lifeLeft -= fed.length;
        writePlain(a, next);
        int body = sent.length - HEAD;
        a.mask(sent, HEAD, a.last);
        check.ofBody(a, a.last, sent, body);
        a.maskCheck(check, a.last);
        sent.appendNumber(check.high, 8);
        sent.appendNumber(check.low, 8);
        return sent.length;
    }

    public int size() {
        return sent.length;
    }

    public long packet(int i) {
        return sent.eightFrom(i);
    }

    public int spoil(int i, int v) throws IndexOutOfBoundsException, IllegalArgumentException {
        if (i < 0 || i >= sent.length) {
            throw new IndexOutOfBoundsException();
        }
        if (!isByte(v)) {
            throw new IllegalArgumentException();
        }
        int before = sent.at(i);
        sent.put(i, v);
        return before;
    }

    public void cut(int n) throws IllegalArgumentException {
        if (n < 0 || n > sent.length) {
            throw new IllegalArgumentException();
        }
        sent.shorten(n);
    }

    public void keep(int place) throws IndexOutOfBoundsException {
        if (!isPlace(place)) {
            throw new IndexOutOfBoundsException();
        }
        places[place].become(sent);
    }

    public int bring(int place) throws IndexOutOfBoundsException {
        if (!isPlace(place)) {
            throw new IndexOutOfBoundsException();
        }
        if (!places[place].isThere) {
            return NONE;
        }
        sent.become(places[place]);
        return sent.length;
    }

    public int open() {
        if (sent.length < HEAD + LEAST_BODY + SEAL || sent.length % 4 != 0) {
            return MISSHAPEN;
        }
        int name = (int) sent.number(0, 4);
        int at = placeOf(name);
        if (!isAt(at, name)) {
            return UNKNOWN;
        }
        Association a = associations[at];
        long number = a.fullNumber(sent.number(NUMBER_AT, 4));
        if (!a.mayGiveOut(number)) {
            a.staleTimes++;
            return STALE;
        }
        if (!isSealRight(a, number)) {
            a.wrongTimes++;
            return WRONG_SEAL;
        }
        a.giveOut(number);
        return unpack(a);
    }

    public int got() {
        return gained.length;
    }

    public long data(int i) {
        return gained.eightFrom(i);
    }

    public long told(int name, int what) throws IllegalStateException, IllegalArgumentException {
        Association a = known(name);
        switch (what) {
            case 0:
                return a.last;
            case 1:
                return a.window.top;
            case 2:
                return a.givenTimes;
            case 3:
                return a.staleTimes;
            case 4:
                return a.wrongTimes;
            case 5:
                return a.lifeLeft;
            case 6:
                return a.window.width;
            case 7:
                return a.extended ? 1 : 0;
            default:
                throw new IllegalArgumentException();
        }
    }

    public long given(int name, int i) throws IllegalStateException, IllegalArgumentException {
        Association a = known(name);
        if (i < 0) {
            throw new IllegalArgumentException();
        }
        return a.window.bitsFrom(i);
    }

    public int name(int i) {
        return i >= 0 && i < count ? associations[i].title : NONE;
    }

    private static boolean isWindow(int window) {
        return window >= LEAST_WINDOW && window <= MOST_WINDOW && window % 32 == 0;
    }

    private static boolean isByte(int v) {
        return v >= 0 && v <= 255;
    }

    private static boolean isPlace(int place) {
        return place >= 0 && place < PLACES;
    }

    /** How many associations have a lower name: where this name stands, or would stand. */
    private int placeOf(int name) {
        int at = 0;
        while (at < count && associations[at].title < name) {
            at++;
        }
        return at;
    }

    private boolean isAt(int at, int name) {
        return at < count && associations[at].title == name;
    }

    private Association known(int name) {
        int at = placeOf(name);
        if (!isAt(at, name)) {
            throw new IllegalStateException();
        }
        return associations[at];
    }

    /** The packet as far as its body, which is still plain, for the association's last number. */
    private void writePlain(Association a, int next) {
        sent.clear();
        sent.appendNumber(a.title, 4);
        sent.appendNumber(a.last, 4);
        sent.appendNumber(a.last, 8);
        sent.appendRow(fed, 0, fed.length);
        int fill = (4 - (fed.length + 2) % 4) % 4;
        for (int k = 1; k <= fill; k++) {
            sent.append(k);
        }
        sent.append(fill);
        sent.append(next);
    }

    private boolean isSealRight(Association a, long number) {
        int sealAt = sent.length - SEAL;
        check.ofBody(a, number, sent, sealAt - HEAD);
        a.maskCheck(check, sent.number(CARRIED_AT, 8));
        return check.high == sent.number(sealAt, 8) && check.low == sent.number(sealAt + 8, 8);
    }

    /** Makes the body plain, takes the data out of it, and answers NEXT or what is wrong. */
    private int unpack(Association a) {
        plain.clear();
        plain.appendRow(sent, HEAD, sent.length - SEAL);
        a.mask(plain, 0, sent.number(CARRIED_AT, 8));
        gained.clear();
        int fill = plain.at(plain.length - 2);
        int next = plain.at(plain.length - 1);
        if (!isFillRight(fill)) {
            return WRONG_FILL;
        }
        if (next == NO_NEXT) {
            return DUMMY;
        }
        gained.appendRow(plain, 0, plain.length - 2 - fill);
        return next;
    }

    private boolean isFillRight(int fill) {
        int from = plain.length - 2 - fill;
        if (from < 0) {
            return false;
        }
        for (int k = 0; k < fill; k++) {
            if (plain.at(from + k) != k + 1) {
                return false;
            }
        }
        return true;
    }

    /** Bytes one after the other, as many as its room has at most. */
    private static final class Row {
        private final byte[] bytes;
        int length = 0;
        /** Tells a row of no bytes from no row at all: just the first may be kept and brought. */
        boolean isThere = false;

        Row(int room) {
            bytes = new byte[room];
        }

        void clear() {
            length = 0;
            isThere = true;
        }

        void shorten(int n) {
            if (n >= 0 && n < length) {
                length = n;
            }
        }

        void append(int value) {
            if (length < bytes.length) {
                bytes[length] = (byte) value;
                length++;
            }
        }

        void appendNumber(long value, int n) {
            for (int k = n - 1; k >= 0; k--) {
                append((int) (value >>> (8 * k)));
            }
        }

        void appendRow(Row other, int from, int to) {
            for (int i = from; i < to; i++) {
                append(other.at(i));
            }
        }

        void become(Row other) {
            length = 0;
            appendRow(other, 0, other.length);
            isThere = other.isThere;
        }

        /** 0 where it has no byte; the index is long, so that a call's i + 7 can't wrap round. */
        int at(long i) {
            return i >= 0 && i < length ? bytes[(int) i] & 255 : 0;
        }

        void put(int i, int value) {
            if (i >= 0 && i < length) {
                bytes[i] = (byte) value;
            }
        }

        long number(int from, int n) {
            return numberUpTo(from, n, length);
        }

        /** Bytes from an end on count as 0, as when a row gets bytes 0 up to whole blocks. */
        long numberUpTo(int from, int n, int end) {
            long value = 0;
            for (int i = from; i < from + n; i++) {
                value = value << 8 | (i < end ? at(i) : 0);
            }
            return value;
        }

        long eightFrom(int i) {
            long value = 0;
            for (int k = 0; k < 8; k++) {
                value |= (long) at((long) i + k) << (8 * k);
            }
            return value;
        }
    }

    /** The cipher with one key; a block is four columns, each an int with its first byte highest. */
    private static final class Cipher {
        private static final int ROUNDS = 10;
        private static final int WORDS = 44;
        private static final int[] SUB = {
            99, 124, 119, 123, 242, 107, 111, 197, 48, 1, 103, 43, 254, 215, 171, 118,
            202, 130, 201, 125, 250, 89, 71, 240, 173, 212, 162, 175, 156, 164, 114, 192,
            183, 253, 147, 38, 54, 63, 247, 204, 52, 165, 229, 241, 113, 216, 49, 21,
            4, 199, 35, 195, 24, 150, 5, 154, 7, 18, 128, 226, 235, 39, 178, 117,
            9, 131, 44, 26, 27, 110, 90, 160, 82, 59, 214, 179, 41, 227, 47, 132,
            83, 209, 0, 237, 32, 252, 177, 91, 106, 203, 190, 57, 74, 76, 88, 207,
            208, 239, 170, 251, 67, 77, 51, 133, 69, 249, 2, 127, 80, 60, 159, 168,
            81, 163, 64, 143, 146, 157, 56, 245, 188, 182, 218, 33, 16, 255, 243, 210,
            205, 12, 19, 236, 95, 151, 68, 23, 196, 167, 126, 61, 100, 93, 25, 115,
            96, 129, 79, 220, 34, 42, 144, 136, 70, 238, 184, 20, 222, 94, 11, 219,
            224, 50, 58, 10, 73, 6, 36, 92, 194, 211, 172, 98, 145, 149, 228, 121,
            231, 200, 55, 109, 141, 213, 78, 169, 108, 86, 244, 234, 101, 122, 174, 8,
            186, 120, 37, 46, 28, 166, 180, 198, 232, 221, 116, 31, 75, 189, 139, 138,
            112, 62, 181, 102, 72, 3, 246, 14, 97, 53, 87, 185, 134, 193, 29, 158,
            225, 248, 152, 17, 105, 217, 142, 148, 155, 30, 135, 233, 206, 85, 40, 223,
            140, 161, 137, 13, 191, 230, 66, 104, 65, 153, 45, 15, 176, 84, 187, 22
        };

        private final int[] words = new int[WORDS];
        /** The two halves of the block that was encrypted last. */
        long high = 0;
        long low = 0;

        void takeKey(long keyHigh, long keyLow) {
            words[0] = (int) (keyHigh >>> 32);
            words[1] = (int) keyHigh;
            words[2] = (int) (keyLow >>> 32);
            words[3] = (int) keyLow;
            int power = 1;
            for (int i = 4; i < WORDS; i++) {
                int word = words[i - 1];
                if (i % 4 == 0) {
                    int turned = turn(word, 8);
                    word = subAcross(turned, turned, turned, turned) ^ power << 24;
                    power = doubled(power);
                }
                words[i] = words[i - 4] ^ word;
            }
        }

        void encrypt(int first, int second, int third, int fourth) {
            int a = first ^ words[0];
            int b = second ^ words[1];
            int c = third ^ words[2];
            int d = fourth ^ words[3];
            for (int r = 1; r <= ROUNDS; r++) {
                boolean mixes = r < ROUNDS;
                int e = subAcross(a, b, c, d);
                int f = subAcross(b, c, d, a);
                int g = subAcross(c, d, a, b);
                int h = subAcross(d, a, b, c);
                a = (mixes ? mixed(e) : e) ^ words[4 * r];
                b = (mixes ? mixed(f) : f) ^ words[4 * r + 1];
                c = (mixes ? mixed(g) : g) ^ words[4 * r + 2];
                d = (mixes ? mixed(h) : h) ^ words[4 * r + 3];
            }
            high = (long) a << 32 | unsigned(b);
            low = (long) c << 32 | unsigned(d);
        }

        private static long unsigned(int word) {
            return word & 0xFFFFFFFFL;
        }

        /** SUB of a column after the moves to the left: its byte k comes from k columns on. */
        private static int subAcross(int a, int b, int c, int d) {
            return SUB[a >>> 24] << 24
                | SUB[b >>> 16 & 255] << 16
                | SUB[c >>> 8 & 255] << 8
                | SUB[d & 255];
        }

        private static int mixed(int column) {
            int next = turn(column, 8);
            return doubled(column ^ next) ^ next ^ turn(column, 16) ^ turn(column, 24);
        }

        /** The product of each of the four bytes with the byte 2. */
        private static int doubled(int word) {
            return (word & 0x7F7F7F7F) << 1 ^ (word >>> 7 & 0x01010101) * 0x1B;
        }

        private static int turn(int word, int bits) {
            return word << bits | word >>> (32 - bits);
        }
    }

    /** The check, a block in two halves. */
    private static final class Check {
        /** What x^128 is in the modulus, 1 + x + x^2 + x^7, with x^0 as the highest bit. */
        private static final long X128 = 0xE1L << 56;

        long high = 0;
        long low = 0;

        /** The check of the name with a number, and of the body that a packet has. */
        void ofBody(Association a, long number, Row row, int body) {
            high = 0;
            low = 0;
            long name = (long) a.title << 32;
            if (a.extended) {
                take(a, name | number >>> 32, number << 32);
            } else {
                take(a, name | number & 0xFFFFFFFFL, 0);
            }
            int end = HEAD + body;
            for (int i = HEAD; i < end; i += 16) {
                take(a, row.numberUpTo(i, 8, end), row.numberUpTo(i + 8, 8, end));
            }
            take(a, 8 * (a.extended ? 12 : 8), 8L * body);
        }

        private void take(Association a, long blockHigh, long blockLow) {
            long h = high ^ blockHigh;
            long l = low ^ blockLow;
            long powerHigh = a.factorHigh;
            long powerLow = a.factorLow;
            high = 0;
            low = 0;
            for (int k = 0; k < 128; k++) {
                long bit = k < 64 ? h >>> (63 - k) & 1 : l >>> (127 - k) & 1;
                high ^= powerHigh & -bit;
                low ^= powerLow & -bit;
                long over = powerLow & 1;
                powerLow = powerLow >>> 1 | powerHigh << 63;
                powerHigh = powerHigh >>> 1 ^ (X128 & -over);
            }
        }
    }

    /** Which of the numbers from the top down, as many as its width, were given out. */
    private static final class Window {
        /** A number's bit stands at the number modulo the width, so that nothing has to move. */
        private final int[] bits = new int[MOST_WINDOW / 32];
        int width = MOST_WINDOW;
        long top = 0;

        void begin(int newWidth) {
            for (int i = 0; i < bits.length; i++) {
                bits[i] = 0;
            }
            width = newWidth;
            top = 0;
        }

        boolean isAbove(long number) {
            return number > top - width;
        }

        /** Asked of numbers of the window alone: above it none was given out, below none is known. */
        boolean has(long number) {
            if (number < 1 || number > top || !isAbove(number)) {
                return false;
            }
            int at = (int) (number % width);
            return (bits[at / 32] >>> at % 32 & 1) != 0;
        }

        void take(long number) {
            if (number < 1) {
                return;
            }
            if (number > top) {
                forget(number);
                top = number;
            }
            int at = (int) (number % width);
            bits[at / 32] |= 1 << at % 32;
        }

        /** The numbers behind the top up to a new one stand where those that leave have stood. */
        private void forget(long newTop) {
            int steps = (int) Math.min(newTop - top, width);
            for (int k = 0; k < steps; k++) {
                int at = (int) ((newTop - k) % width);
                bits[at / 32] &= ~(1 << at % 32);
            }
        }

        long bitsFrom(int i) {
            long value = 0;
            for (int k = 0; k < 64; k++) {
                if (has(top - i - k)) {
                    value |= 1L << k;
                }
            }
            return value;
        }
    }

    private static final class Association {
        private static final int FIRST_LIFE = 1000000000;
        private static final long SHORT_GREATEST = 0xFFFFFFFFL;

        private final Cipher cipher = new Cipher();
        final Window window = new Window();
        int title = 0;
        private int salt = 0;
        boolean extended = false;
        /** The block 0 encrypted, with which the check makes its products. */
        long factorHigh = 0;
        long factorLow = 0;
        long last = 0;
        int lifeLeft = 0;
        long givenTimes = 0;
        long staleTimes = 0;
        long wrongTimes = 0;

        void begin(int newTitle, int newSalt, int width, boolean isExtended) {
            title = newTitle;
            salt = newSalt;
            extended = isExtended;
            last = 0;
            lifeLeft = FIRST_LIFE;
            givenTimes = 0;
            staleTimes = 0;
            wrongTimes = 0;
            window.begin(width);
        }

        void takeKey(long high, long low) {
            cipher.takeKey(high, low);
            cipher.encrypt(0, 0, 0, 0);
            factorHigh = cipher.high;
            factorLow = cipher.low;
        }

        long greatest() {
            return extended ? Long.MAX_VALUE : SHORT_GREATEST;
        }

        /** Above 2^63 - 1 it wraps round to below 1, which may not be given out either. */
        long fullNumber(long lowest) {
            if (!extended) {
                return lowest;
            }
            long least = window.top - window.width + 1;
            return least + (lowest - least & 0xFFFFFFFFL);
        }

        boolean mayGiveOut(long number) {
            return number >= 1 && number <= greatest()
                && window.isAbove(number) && !window.has(number);
        }

        void giveOut(long number) {
            window.take(number);
            givenTimes++;
        }

        /** Makes a body that stands from a byte to the row's end encrypted, or plain again. */
        void mask(Row row, int from, long carried) {
            int j = 2;
            for (int i = from; i < row.length; i += 16) {
                encryptJ(carried, j);
                int end = Math.min(i + 16, row.length);
                for (int k = i; k < end; k++) {
                    long half = k - i < 8 ? cipher.high : cipher.low;
                    row.put(k, row.at(k) ^ (int) (half >>> (56 - 8 * (k - i & 7))));
                }
                j++;
            }
        }

        void maskCheck(Check check, long carried) {
            encryptJ(carried, 1);
            check.high ^= cipher.high;
            check.low ^= cipher.low;
        }

        private void encryptJ(long carried, int j) {
            cipher.encrypt(salt, (int) (carried >>> 32), (int) carried, j);
        }
    }
}
