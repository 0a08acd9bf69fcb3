/** Promises 6 to 9: a test for each sentence, and each part of one, that names a boundary case. */
public final class EdgesOfBytesTest {
    private static final int NONE = PagedBytes.NONE;
    private static final int PAGE = 65536;
    private static final int LEAST_INT = Integer.MIN_VALUE;
    private static final int GREATEST_INT = Integer.MAX_VALUE;
    private static final int[] WILD = {
        LEAST_INT, LEAST_INT + 1, -PAGE, -1, 0, PAGE - 1, PAGE, PAGE + 1, GREATEST_INT - 1, GREATEST_INT,
    };

    public static void main(String[] args) {
        loadAndStore();
        copy();
        sum();
        Check.sentence("An object is used for at most 512 calls", EdgesOfBytesTest::the512thCall);
        Check.end();
    }

    private static void loadAndStore() {
        Check.sentence("6: when there is no such load", EdgesOfBytesTest::noSuchLoad);
        Check.sentence("6: a byte is not in the memory", EdgesOfBytesTest::loadOverTheEnd);
        Check.sentence("6: Loads, up to the last byte and over pages", EdgesOfBytesTest::loadOverPages);
        Check.sentence("7: when there is no such store", EdgesOfBytesTest::noSuchStore);
        Check.sentence("7: a byte is not in the memory", EdgesOfBytesTest::storeOverTheEnd);
        Check.sentence("7: Stores, up to the last byte and over pages", EdgesOfBytesTest::storeOverPages);
    }

    private static void copy() {
        Check.sentence("8: n bytes from a place of one memory to one of another", EdgesOfBytesTest::copyIsOfNBytes);
        Check.sentence("8: (or the same), as they were before", EdgesOfBytesTest::copyOverItself);
        Check.sentence("8: with n 0 nothing, wherever the places are", EdgesOfBytesTest::copyOfNothing);
        Check.sentence("8: n is not 0 .. 4096, too small", EdgesOfBytesTest::copyOfTooFew);
        Check.sentence("8: n is not 0 .. 4096, too large", EdgesOfBytesTest::copyOfTooMany);
        Check.sentence("8: a byte, of the first, is not there", EdgesOfBytesTest::copyFromTheEnd);
        Check.sentence("8: a byte, of the other, is not there", EdgesOfBytesTest::copyToTheEnd);
    }

    private static void sum() {
        Check.sentence("8: so sum() is 0 then", EdgesOfBytesTest::sumOfNothing);
        Check.sentence("9: as an int (wrapping)", EdgesOfBytesTest::sumWraps);
        Check.sentence("9: each times how many come behind it and 1", EdgesOfBytesTest::sumWeighs);
        Check.sentence("9: of the n bytes from a place on", EdgesOfBytesTest::sumIsOfNBytes);
        Check.sentence("9: n is not 0 .. 65536, too small", EdgesOfBytesTest::sumOfTooFew);
        Check.sentence("9: n is not 0 .. 65536, too large", EdgesOfBytesTest::sumOfTooMany);
        Check.sentence("9: a byte is not there", EdgesOfBytesTest::sumOverTheEnd);
    }

    private static PagedBytes withPages(int... pages) {
        PagedBytes x = new PagedBytes();
        for (int p : pages) {
            x.make(p, NONE);
        }
        return x;
    }

    private static long byteAt(PagedBytes x, int m, int place) {
        return x.load(m, Kinds.LOAD_BYTE, place, 0);
    }

    private static void putByte(PagedBytes x, int m, int place, int value) {
        x.store(m, Kinds.STORE_BYTE, place, 0, value);
    }

    private static void noSuchLoad() {
        PagedBytes x = withPages(1);
        for (int operation = 0; operation < 0x80; operation++) {
            int load = operation;
            boolean there = operation >= 0x28 && operation <= 0x35;
            Check.throwing("load " + Kinds.name(load), there ? null : Check.ARGUMENT, () -> x.load(0, load, 0, 0));
        }
        for (int load : new int[] {-1, LEAST_INT, GREATEST_INT, 0x128, LEAST_INT + 0x28, ~0x28}) {
            Check.throwing("load " + Kinds.name(load), Check.ARGUMENT, () -> x.load(0, load, 0, 0));
        }
    }

    private static void loadOverTheEnd() {
        for (int[] kind : Kinds.LOADS) {
            PagedBytes x = withPages(0, 1, 15);
            for (int there = 0; there < kind[1]; there++) {
                int missing = kind[1] - there;
                String what = "load " + Kinds.name(kind[0]) + ", missing " + missing;
                Check.throwing(what, Check.BOUNDS, () -> x.load(1, kind[0], PAGE - kind[1] + missing, 0));
                Check.throwing(what + ", by offset", Check.BOUNDS,
                        () -> x.load(2, kind[0], 14 * PAGE, PAGE - kind[1] + missing));
            }
            Check.throwing("load " + Kinds.name(kind[0]) + " of no page", Check.BOUNDS, () -> x.load(0, kind[0], 0, 0));
        }
    }

    private static void loadOverPages() {
        PagedBytes x = withPages(2);
        for (int i = -8; i < 8; i++) {
            putByte(x, 0, PAGE + i, 0x40 + i);
            putByte(x, 0, 2 * PAGE - 8 + i, 0x40 + i);
        }
        for (int[] kind : Kinds.LOADS) {
            for (int i = -8; i <= 8 - kind[1]; i++) {
                long due = 0;
                for (int b = 0; b < kind[1]; b++) {
                    due |= (0x40L + i + b) << 8 * b;
                }
                String what = "load " + Kinds.name(kind[0]) + ", " + i;
                Check.equal(what + " from the border of pages", x.load(0, kind[0], PAGE + i, 0), due);
                Check.equal(what + " from near the end", x.load(0, kind[0], 2 * PAGE - 8 + i, 0), due);
            }
        }
    }

    private static void noSuchStore() {
        PagedBytes x = withPages(1);
        for (int operation = 0; operation < 0x80; operation++) {
            int store = operation;
            boolean there = operation >= 0x36 && operation <= 0x3e;
            Check.throwing("store " + Kinds.name(store), there ? null : Check.ARGUMENT,
                    () -> x.store(0, store, 0, 0, 0));
        }
        for (int store : new int[] {-1, LEAST_INT, GREATEST_INT, 0x136, LEAST_INT + 0x36, ~0x36}) {
            Check.throwing("store " + Kinds.name(store), Check.ARGUMENT, () -> x.store(0, store, 0, 0, 0));
        }
    }

    private static void storeOverTheEnd() {
        for (int[] kind : Kinds.STORES) {
            PagedBytes x = withPages(0, 1, 2);
            for (int there = 0; there < kind[1]; there++) {
                int missing = kind[1] - there;
                String what = "store " + Kinds.name(kind[0]) + ", missing " + missing;
                Check.throwing(what, Check.BOUNDS, () -> x.store(1, kind[0], PAGE - kind[1] + missing, 0, -1));
                Check.throwing(what + ", by offset", Check.BOUNDS,
                        () -> x.store(2, kind[0], PAGE, PAGE - kind[1] + missing, -1));
            }
            Check.throwing("store " + Kinds.name(kind[0]) + " to no page", Check.BOUNDS,
                    () -> x.store(0, kind[0], 0, 0, -1));
            Check.equal("nothing is touched", x.sum(1, 0, PAGE), 0);
            Check.equal("nor in two pages", x.sum(2, PAGE, PAGE), 0);
        }
    }

    private static void storeOverPages() {
        for (int[] kind : Kinds.STORES) {
            for (int i = 0; i <= kind[1]; i++) {
                PagedBytes x = withPages(2);
                x.store(0, kind[0], PAGE - i, 0, 0x1817161514131211L);
                x.store(0, kind[0], 2 * PAGE - kind[1], 0, 0x1817161514131211L);
                for (int b = -1; b <= kind[1]; b++) {
                    long due = b >= 0 && b < kind[1] ? 0x11 + b : 0;
                    String what = "store " + Kinds.name(kind[0]) + ", byte " + b;
                    Check.equal(what + " from " + i + " before a page", byteAt(x, 0, PAGE - i + b), due);
                    if (b < kind[1]) {
                        Check.equal(what + " at the end", byteAt(x, 0, 2 * PAGE - kind[1] + b), due);
                    }
                }
            }
        }
    }

    private static void copyIsOfNBytes() {
        for (int n : new int[] {1, 2, 1023, 1024, 1025, 4095, 4096}) {
            PagedBytes x = withPages(1, 2);
            for (int i : new int[] {-1, 0, n - 1, n}) {
                putByte(x, 0, 5000 + i, 100);
            }
            x.copy(0, 5000, 1, PAGE - 1, n);
            Check.equal("the byte before " + n, byteAt(x, 1, PAGE - 2), 0);
            Check.equal("the first of " + n, byteAt(x, 1, PAGE - 1), 100);
            Check.equal("the last of " + n, byteAt(x, 1, PAGE - 1 + n - 1), 100);
            Check.equal("the byte behind " + n, byteAt(x, 1, PAGE - 1 + n), 0);
            Check.equal("where they came from", byteAt(x, 0, 5000 + n), 100);
        }
    }

    /** Every byte of a place is told from its neighbours: places that overlap may be read in no wrong order. */
    private static void copyOverItself() {
        for (int by : new int[] {-4096, -4095, -1024, -8, -1, 0, 1, 8, 1024, 4095, 4096}) {
            PagedBytes x = withPages(2);
            int from = PAGE - 2048;
            for (int i = 0; i < 4096; i += 32) {
                x.store(0, Kinds.STORE_8_BYTES, from + i, 0, 0x0101010101010101L * (i / 32 + 1) + 0x0706050403020100L);
            }
            putByte(x, 0, from + 4095, 199);
            int before = x.sum(0, from, 4096);
            x.copy(0, from, 0, from + by, 4096);
            Check.equal("sum of what was moved by " + by, x.sum(0, from + by, 4096), before);
            for (int i = 0; i < 4096; i += 32) {
                Check.equal("moved by " + by + ", byte " + i, byteAt(x, 0, from + by + i), i / 32 + 1);
            }
            Check.equal("moved by " + by + ", the last byte", byteAt(x, 0, from + by + 4095), 199);
        }
    }

    private static void copyOfNothing() {
        PagedBytes x = withPages(1, 0);
        x.store(0, Kinds.STORE_8_BYTES, 0, 0, 0x0807060504030201L);
        putByte(x, 0, PAGE - 1, 33);
        int before = x.sum(0, 0, PAGE);
        for (int from : WILD) {
            for (int to : WILD) {
                String what = "from " + from + " to " + to;
                Check.throwing(what, null, () -> x.copy(0, from, 0, to, 0));
                Check.throwing(what + " of no page", null, () -> x.copy(1, from, 0, to, 0));
                Check.throwing(what + " into no page", null, () -> x.copy(0, from, 1, to, 0));
            }
        }
        Check.equal("nothing is touched", x.sum(0, 0, PAGE), before);
    }

    private static void copyOfTooFew() {
        wrongCopies(-1, -2, -4096, -PAGE, LEAST_INT);
    }

    private static void copyOfTooMany() {
        wrongCopies(4097, 4098, PAGE, GREATEST_INT);
        PagedBytes x = withPages(1, 1);
        putByte(x, 0, 4095, 44);
        x.copy(0, 0, 1, PAGE - 4096, 4096);
        Check.equal("4096 are not too many", byteAt(x, 1, PAGE - 1), 44);
    }

    private static void wrongCopies(int... counts) {
        for (int n : counts) {
            PagedBytes x = withPages(2, 2);
            x.store(0, Kinds.STORE_8_BYTES, 8192, 0, -1);
            Check.throwing(n + " bytes", Check.ARGUMENT, () -> x.copy(0, 8192, 1, 8192, n));
            Check.throwing(n + " bytes of one memory", Check.ARGUMENT, () -> x.copy(0, 8192, 0, 0, n));
            Check.equal("nothing is touched", x.sum(1, 0, PAGE), 0);
            Check.equal("nor in the same", x.sum(0, 0, 8192), 0);
        }
    }

    private static void copyFromTheEnd() {
        PagedBytes x = withPages(1, 2, 0);
        x.store(0, Kinds.STORE_8_BYTES, PAGE - 8, 0, -1);
        for (int n : new int[] {1, 2, 8, 4096}) {
            for (int from : new int[] {PAGE - n + 1, PAGE, PAGE + 1, GREATEST_INT - n, GREATEST_INT}) {
                Check.throwing(n + " from " + from, Check.BOUNDS, () -> x.copy(0, from, 1, 0, n));
                Check.throwing(n + " to itself from " + from, Check.BOUNDS, () -> x.copy(0, from, 0, 0, n));
            }
            Check.throwing(n + " from no page", Check.BOUNDS, () -> x.copy(2, 0, 1, 0, n));
        }
        Check.equal("nothing is touched", x.sum(1, 0, PAGE), 0);
        Check.equal("nor in itself", x.sum(0, 0, PAGE - 8), 0);
        x.copy(0, PAGE - 8, 1, 0, 8);
        Check.equal("the last 8 are there", x.load(1, Kinds.LOAD_8_BYTES, 0, 0), -1);
    }

    private static void copyToTheEnd() {
        PagedBytes x = withPages(1, 2, 0);
        x.store(1, Kinds.STORE_8_BYTES, 0, 0, -1);
        for (int n : new int[] {1, 2, 8, 4096}) {
            for (int to : new int[] {PAGE - n + 1, PAGE, PAGE + 1, GREATEST_INT - n, GREATEST_INT}) {
                Check.throwing(n + " to " + to, Check.BOUNDS, () -> x.copy(1, 0, 0, to, n));
                Check.throwing(n + " from itself to " + to, Check.BOUNDS, () -> x.copy(0, 0, 0, to, n));
            }
            Check.throwing(n + " to no page", Check.BOUNDS, () -> x.copy(1, 0, 2, 0, n));
        }
        Check.equal("nothing is touched", x.sum(0, 0, PAGE), 0);
        x.copy(1, 0, 0, PAGE - 8, 8);
        Check.equal("the last 8 are there", x.load(0, Kinds.LOAD_8_BYTES, PAGE - 8, 0), -1);
    }

    private static void sumOfNothing() {
        PagedBytes x = withPages(1, 0);
        x.store(0, Kinds.STORE_8_BYTES, 0, 0, -1);
        x.store(0, Kinds.STORE_8_BYTES, PAGE - 8, 0, -1);
        for (int from : WILD) {
            Check.equal("from " + from, x.sum(0, from, 0), 0);
            Check.equal("of no page from " + from, x.sum(1, from, 0), 0);
        }
    }

    private static void sumWraps() {
        PagedBytes x = withPages(1);
        x.store(0, Kinds.STORE_8_BYTES, 0, 0, -1);
        for (int n = 8; n < 4096; n += n) {
            x.copy(0, 0, 0, n, n);
        }
        for (int to = 4096; to < PAGE; to += 4096) {
            x.copy(0, 0, 0, to, 4096);
        }
        // n bytes of 255 sum up to 255 * n * (n + 1) / 2.
        Check.equal("the greatest n without wrapping", x.sum(0, 0, 4103), 2146935780);
        Check.equal("the first n that wraps", x.sum(0, 0, 4104), (int) 2147982300L);
        Check.equal("twice round", x.sum(0, 0, 8207), (int) (255L * 8207 * 8208 / 2));
        Check.equal("65535 bytes", x.sum(0, 1, 65535), (int) (255L * 65535 * 65536 / 2));
        Check.equal("65536 bytes", x.sum(0, 0, 65536), (int) (255L * 65536 * 65537 / 2));
    }

    private static void sumWeighs() {
        PagedBytes x = withPages(2);
        putByte(x, 0, PAGE - 1, 255);
        Check.equal("a byte alone", x.sum(0, PAGE - 1, 1), 255);
        Check.equal("a byte that is last", x.sum(0, 0, PAGE), 255);
        Check.equal("a byte with 65535 behind", x.sum(0, PAGE - 1, PAGE), 255 * PAGE);
        Check.equal("a byte with one behind", x.sum(0, PAGE - 2, 3), 255 * 2);
        putByte(x, 0, PAGE, 128);
        Check.equal("two bytes over a border", x.sum(0, PAGE - 1, 2), 255 * 2 + 128);
    }

    private static void sumIsOfNBytes() {
        for (int n : new int[] {1, 2, 1023, 1024, 1025, 65535, 65536}) {
            PagedBytes x = withPages(3);
            putByte(x, 0, 999, 200);
            putByte(x, 0, 1000 + n, 200);
            Check.equal("none of the bytes beside " + n, x.sum(0, 1000, n), 0);
            putByte(x, 0, 1000 + n - 1, 3);
            Check.equal("the last of " + n, x.sum(0, 1000, n), 3);
            putByte(x, 0, 1000, 5);
            Check.equal("the first of " + n, x.sum(0, 1000, n), n == 1 ? 5 : 5 * n + 3);
        }
    }

    private static void sumOfTooFew() {
        PagedBytes x = withPages(2);
        for (int n : new int[] {-1, -2, -PAGE, LEAST_INT}) {
            Check.throwing(n + " bytes", Check.ARGUMENT, () -> x.sum(0, PAGE, n));
        }
    }

    private static void sumOfTooMany() {
        PagedBytes x = withPages(16);
        for (int n : new int[] {65537, 65538, 2 * PAGE, 16 * PAGE, GREATEST_INT}) {
            Check.throwing(n + " bytes", Check.ARGUMENT, () -> x.sum(0, 0, n));
        }
        putByte(x, 0, 65535, 6);
        Check.equal("65536 are not too many", x.sum(0, 0, 65536), 6);
    }

    private static void sumOverTheEnd() {
        PagedBytes x = withPages(1, 0, 15);
        for (int n : new int[] {1, 2, 1024, PAGE}) {
            for (int from : new int[] {PAGE - n + 1, PAGE, PAGE + 1, GREATEST_INT - n, GREATEST_INT}) {
                Check.throwing(n + " from " + from, Check.BOUNDS, () -> x.sum(0, from, n));
            }
            Check.equal("the last " + n, x.sum(0, PAGE - n, n), 0);
            Check.throwing(n + " of no page", Check.BOUNDS, () -> x.sum(1, 0, n));
            Check.equal("the last " + n + " of 15 pages", x.sum(2, 15 * PAGE - n, n), 0);
            Check.throwing("one further", Check.BOUNDS, () -> x.sum(2, 15 * PAGE - n + 1, n));
        }
    }

    /** As much is written as 512 calls can write: all 16 pages, and nothing is lost on the way. */
    private static void the512thCall() {
        PagedBytes x = withPages(16);
        x.store(0, Kinds.STORE_8_BYTES, 0, 0, 0x0807060504030201L);
        for (int to = 4096; to < 16 * PAGE; to += 4096) {
            x.copy(0, 0, 0, to, 4096);
        }
        for (int call = 1 + 1 + 255; call < 511; call++) {
            x.copy(0, (call - 257) * 4096, 0, 16 * PAGE - 4096, 4096);
        }
        Check.equal("the 512th call", x.load(0, Kinds.LOAD_8_BYTES, 16 * PAGE - 4096, 0), 0x0807060504030201L);
    }
}
