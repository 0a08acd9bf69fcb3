/** "Terms": a test for each sentence, and each part of one, that names a boundary case. */
public final class EdgesOfTermsTest {
    private static final int NONE = PagedBytes.NONE;
    private static final int PAGE = 65536;
    private static final int LEAST_INT = Integer.MIN_VALUE;
    private static final int GREATEST_INT = Integer.MAX_VALUE;

    public static void main(String[] args) {
        memories();
        loadsAndStores();
        places();
        Check.end();
    }

    private static void memories() {
        Check.sentence("A PAGE has 65536 bytes", EdgesOfTermsTest::pageHas65536Bytes);
        Check.sentence("A MEMORY 0, 1, .. (at most 24)", EdgesOfTermsTest::atMost24Memories);
        Check.sentence("has PAGES, at most 65536", EdgesOfTermsTest::atMost65536Pages);
        Check.sentence("and may have a MOST", EdgesOfTermsTest::mayHaveAMost);
        Check.sentence("its bytes have the places 0, 1, ..", EdgesOfTermsTest::placesFrom0);
        Check.sentence("and are 0 at first", EdgesOfTermsTest::zeroAtFirst);
        Check.sentence("All memories together have at most 16 pages", EdgesOfTermsTest::atMost16Pages);
    }

    private static void loadsAndStores() {
        Check.sentence("each load goes over so many BYTES", EdgesOfTermsTest::bytesOfLoads);
        Check.sentence("each store goes over so many BYTES", EdgesOfTermsTest::bytesOfStores);
        Check.sentence("the lowest first", EdgesOfTermsTest::lowestFirst);
        Check.sentence("stored are the lowest bits", EdgesOfTermsTest::lowestBitsAreStored);
        Check.sentence("what is loaded has 0 above its 32", EdgesOfTermsTest::zeroAbove32);
        Check.sentence("with a sign (its highest bit is repeated up to the type's width; s)",
                EdgesOfTermsTest::withASign);
        Check.sentence("or without (u)", EdgesOfTermsTest::withoutASign);
        Check.sentence("F and D likewise", EdgesOfTermsTest::bitsOfFractions);
    }

    private static void places() {
        Check.sentence("whole numbers of 32 bits without a sign", EdgesOfTermsTest::addressesHaveNoSign);
        Check.sentence("together (up to 2 to the 33)", EdgesOfTermsTest::placesDoNotWrap);
        Check.sentence("an ADDRESS and an OFFSET together", EdgesOfTermsTest::addressAndOffset);
        Check.sentence("Places in copy() below 0 are not there", EdgesOfTermsTest::copyBelow0);
        Check.sentence("Places in sum() below 0 are not there", EdgesOfTermsTest::sumBelow0);
    }

    private static PagedBytes withPages(int pages) {
        PagedBytes x = new PagedBytes();
        x.make(pages, NONE);
        return x;
    }

    private static long byteAt(PagedBytes x, int m, int place) {
        return x.load(m, Kinds.LOAD_BYTE, place, 0);
    }

    private static void pageHas65536Bytes() {
        for (int pages = 1; pages <= 16; pages++) {
            PagedBytes x = withPages(pages);
            int end = pages * 65536;
            x.store(0, Kinds.STORE_BYTE, end - 1, 0, 77);
            Check.equal("last byte of " + pages + " pages", byteAt(x, 0, end - 1), 77);
            Check.throwing("load behind " + pages + " pages", Check.BOUNDS, () -> byteAt(x, 0, end));
            Check.throwing("store behind " + pages + " pages", Check.BOUNDS,
                    () -> x.store(0, Kinds.STORE_BYTE, end, 0, 77));
        }
        PagedBytes empty = withPages(0);
        Check.throwing("first byte of no page", Check.BOUNDS, () -> byteAt(empty, 0, 0));
    }

    private static void atMost24Memories() {
        PagedBytes x = new PagedBytes();
        for (int m = 0; m < 24; m++) {
            Check.equal("number of memory " + m, x.make(m < 23 ? 0 : 1, NONE), m);
        }
        Check.throwing("one more than 24", Check.STATE, () -> x.make(0, NONE));
        x.store(23, Kinds.STORE_BYTE, 0, 0, 5);
        Check.equal("a byte of the 24th", byteAt(x, 23, 0), 5);
        Check.throwing("a 25th", Check.ARGUMENT, () -> x.pages(24));
    }

    private static void atMost65536Pages() {
        PagedBytes x = new PagedBytes();
        Check.throwing("65536 are not wrong, but too many for all", Check.UNSUPPORTED, () -> x.make(65536, NONE));
        Check.throwing("65537 are wrong", Check.ARGUMENT, () -> x.make(65537, NONE));
        Check.equal("a most of 65536", x.make(0, 65536), 0);
        Check.throwing("a most of 65537", Check.ARGUMENT, () -> x.make(0, 65537));
        Check.equal("growing to 65537 without a most", x.grow(x.make(1, NONE), 65536), NONE);
    }

    private static void mayHaveAMost() {
        PagedBytes x = new PagedBytes();
        x.make(1, 2);
        x.make(1, NONE);
        Check.equal("one page beyond the most", x.grow(0, 2), NONE);
        Check.equal("up to the most", x.grow(0, 1), 1);
        Check.equal("one more", x.grow(0, 1), NONE);
        Check.equal("without a most", x.grow(1, 13), 1);
        Check.isTrue("a most that is had", x.fits(0, 0, 2));
        Check.isFalse("a most that is not had", x.fits(1, 0, 65536));
    }

    private static void placesFrom0() {
        PagedBytes x = withPages(1);
        x.store(0, Kinds.STORE_BYTE, 0, 0, 11);
        x.store(0, Kinds.STORE_BYTE, 1, 0, 22);
        Check.equal("place 0", byteAt(x, 0, 0), 11);
        Check.equal("place 1", byteAt(x, 0, 1), 22);
        Check.equal("places 0 and 1 weighed", x.sum(0, 0, 2), 2 * 11 + 22);
        Check.throwing("place -1", Check.BOUNDS, () -> x.sum(0, -1, 1));
    }

    private static void zeroAtFirst() {
        PagedBytes x = new PagedBytes();
        x.make(6, NONE);
        x.store(0, Kinds.STORE_8_BYTES, 0, 0, -1);
        x.make(3, NONE);
        x.make(0, NONE);
        x.grow(2, 7);
        for (int page = 0; page < 7; page++) {
            Check.equal("page " + page + " that came by grow", x.sum(2, page * PAGE, PAGE), 0);
        }
        for (int page = 0; page < 3; page++) {
            Check.equal("page " + page + " that came by make", x.sum(1, page * PAGE, PAGE), 0);
        }
        Check.equal("first bytes", x.load(1, Kinds.LOAD_8_BYTES, 0, 0), 0);
        Check.equal("last bytes", x.load(2, Kinds.LOAD_8_BYTES, 7 * PAGE - 8, 0), 0);
    }

    private static void atMost16Pages() {
        PagedBytes x = new PagedBytes();
        for (int m = 0; m < 15; m++) {
            x.make(1, NONE);
        }
        Check.throwing("15 and 2 by make", Check.UNSUPPORTED, () -> x.make(2, NONE));
        Check.equal("15 and 2 by grow", x.grow(14, 2), NONE);
        Check.equal("15 and 1 by make", x.make(1, NONE), 15);
        Check.throwing("16 and 1 by make", Check.UNSUPPORTED, () -> x.make(1, NONE));
        Check.equal("16 and 1 by grow", x.grow(0, 1), NONE);
        Check.equal("16 and 0 by make", x.make(0, NONE), 16);
        Check.equal("16 and 0 by grow", x.grow(0, 0), 1);
        PagedBytes y = withPages(15);
        Check.equal("15 and 1 by grow", y.grow(0, 1), 15);
    }

    private static void bytesOfLoads() {
        PagedBytes x = withPages(1);
        for (int[] kind : Kinds.LOADS) {
            String name = "load " + Kinds.name(kind[0]);
            Check.equal(name + " of the last bytes", x.load(0, kind[0], PAGE - kind[1], 0), 0);
            Check.throwing(name + " one place on", Check.BOUNDS, () -> x.load(0, kind[0], PAGE - kind[1] + 1, 0));
            x.store(0, Kinds.STORE_BYTE, 100 + kind[1], 0, 255);
            Check.equal(name + " takes no byte behind", x.load(0, kind[0], 100, 0), 0);
            x.store(0, Kinds.STORE_BYTE, 100 + kind[1], 0, 0);
            x.store(0, Kinds.STORE_BYTE, 100 + kind[1] - 1, 0, 1);
            Check.equal(name + " takes its last byte", x.load(0, kind[0], 100, 0), 1L << 8 * (kind[1] - 1));
            x.store(0, Kinds.STORE_BYTE, 100 + kind[1] - 1, 0, 0);
        }
    }

    private static void bytesOfStores() {
        for (int[] kind : Kinds.STORES) {
            PagedBytes x = withPages(1);
            String name = "store " + Kinds.name(kind[0]);
            Check.throwing(name + " over the end", Check.BOUNDS,
                    () -> x.store(0, kind[0], PAGE - kind[1] + 1, 0, -1));
            x.store(0, kind[0], PAGE - kind[1], 0, -1);
            x.store(0, kind[0], 100, 0, -1);
            for (int i = -2; i < 10; i++) {
                long due = i >= 0 && i < kind[1] ? 255 : 0;
                Check.equal(name + ", byte " + i, byteAt(x, 0, 100 + i), due);
            }
            Check.equal(name + ", the last byte", byteAt(x, 0, PAGE - 1), 255);
        }
    }

    private static void lowestFirst() {
        PagedBytes x = withPages(2);
        x.store(0, Kinds.STORE_8_BYTES, PAGE - 3, 0, 0x0807060504030201L);
        for (int i = 0; i < 8; i++) {
            Check.equal("byte " + i + " over the end of a page", byteAt(x, 0, PAGE - 3 + i), i + 1);
        }
        Check.equal("all 8 of them", x.load(0, Kinds.LOAD_8_BYTES, PAGE - 3, 0), 0x0807060504030201L);
        Check.equal("4 of them", x.load(0, 0x28, PAGE - 3, 1), 0x05040302L);
        Check.equal("2 of them", x.load(0, 0x2f, PAGE - 1, 0), 0x0403L);
    }

    private static void lowestBitsAreStored() {
        PagedBytes x = withPages(1);
        long[] values = {0xffffffff00000000L, LEAST_INT, -1L << 16, -1L << 8, Long.MIN_VALUE, -1L, 0x1_0000_0000L};
        for (int[] kind : Kinds.STORES) {
            long mask = kind[1] == 8 ? -1L : (1L << 8 * kind[1]) - 1;
            for (long value : values) {
                x.store(0, Kinds.STORE_8_BYTES, 0, 0, 0);
                x.store(0, kind[0], 0, 0, value);
                String what = "store " + Kinds.name(kind[0]) + " of " + Long.toHexString(value);
                Check.equal(what, x.load(0, Kinds.LOAD_8_BYTES, 0, 0), value & mask);
            }
        }
    }

    private static void zeroAbove32() {
        PagedBytes x = withPages(1);
        x.store(0, Kinds.STORE_8_BYTES, 0, 0, -1);
        for (int operation : new int[] {0x28, 0x2a, 0x2c, 0x2e}) {
            Check.equal("load " + Kinds.name(operation), x.load(0, operation, 0, 0), 0xffffffffL);
        }
    }

    private static void withASign() {
        loaded(0x2c, 0x7f, 0x7fL);
        loaded(0x2c, 0x80, 0xffffff80L);
        loaded(0x2c, 0xff, 0xffffffffL);
        loaded(0x2e, 0x7fff, 0x7fffL);
        loaded(0x2e, 0x8000, 0xffff8000L);
        loaded(0x2e, 0xff7f, 0xffffff7fL);
        loaded(0x2e, 0x00ff, 0x00ffL);
        loaded(0x30, 0x7f, 127L);
        loaded(0x30, 0x80, -128L);
        loaded(0x30, 0xff, -1L);
        loaded(0x32, 0x7fff, 32767L);
        loaded(0x32, 0x8000, -32768L);
        loaded(0x32, 0x00ff, 255L);
        loaded(0x34, 0x7fffffffL, 2147483647L);
        loaded(0x34, 0x80000000L, -2147483648L);
        loaded(0x34, 0x0000ffffL, 65535L);
    }

    private static void withoutASign() {
        loaded(0x2d, 0x80, 0x80L);
        loaded(0x2d, 0xff, 0xffL);
        loaded(0x2f, 0x8000, 0x8000L);
        loaded(0x2f, 0xffff, 0xffffL);
        loaded(0x31, 0x80, 0x80L);
        loaded(0x31, 0xff, 0xffL);
        loaded(0x33, 0x8000, 0x8000L);
        loaded(0x33, 0xffff, 0xffffL);
        loaded(0x35, 0x80000000L, 0x80000000L);
        loaded(0x35, 0xffffffffL, 0xffffffffL);
        loaded(0x28, 0x80000000L, 0x80000000L);
        loaded(0x29, Long.MIN_VALUE, Long.MIN_VALUE);
    }

    /** Numbers that are none, which a machine that took them for fractions might change. */
    private static void bitsOfFractions() {
        for (long bits : new long[] {0x7fa00001L, 0xffffffffL, 0x80000000L, 0x7f800001L, 1}) {
            PagedBytes x = withPages(1);
            x.store(0, 0x39, 8, 0, -1);
            x.store(0, 0x38, 8, 0, 0x1234567800000000L | bits);
            Check.equal("F " + Long.toHexString(bits), x.load(0, 0x2a, 8, 0), bits);
            Check.equal("what is behind F stays", x.load(0, 0x2a, 12, 0), 0xffffffffL);
        }
        for (long bits : new long[] {0x7ff0000000000001L, -1L, Long.MIN_VALUE, 0xfff4000000000000L, 1}) {
            PagedBytes x = withPages(1);
            x.store(0, 0x39, 16, 0, -1);
            x.store(0, 0x39, 8, 0, bits);
            Check.equal("D " + Long.toHexString(bits), x.load(0, 0x2b, 8, 0), bits);
            Check.equal("what is behind D stays", x.load(0, 0x2b, 16, 0), -1);
        }
    }

    /** The bytes behind the number are the other way round, so that one of them taken for its sign shows. */
    private static void loaded(int operation, long stored, long due) {
        PagedBytes x = withPages(1);
        int bytes = Kinds.LOADS[operation - 0x28][1];
        boolean high = (stored >>> (8 * bytes - 1) & 1) == 1;
        x.store(0, Kinds.STORE_8_BYTES, 16 + bytes, 0, high ? 0 : -1);
        for (int i = 0; i < bytes; i++) {
            x.store(0, Kinds.STORE_BYTE, 16 + i, 0, stored >>> 8 * i);
        }
        Check.equal("load " + Kinds.name(operation) + " of " + Long.toHexString(stored),
                x.load(0, operation, 16, 0), due);
    }

    private static void notThere(int[][] places) {
        PagedBytes x = withPages(16);
        for (int[] p : places) {
            String at = Integer.toHexString(p[0]) + " and " + Integer.toHexString(p[1]);
            Check.throwing("load of a byte at " + at, Check.BOUNDS, () -> x.load(0, Kinds.LOAD_BYTE, p[0], p[1]));
            Check.throwing("load of 8 at " + at, Check.BOUNDS, () -> x.load(0, Kinds.LOAD_8_BYTES, p[0], p[1]));
            Check.throwing("store of a byte at " + at, Check.BOUNDS,
                    () -> x.store(0, Kinds.STORE_BYTE, p[0], p[1], -1));
            Check.throwing("store of 8 at " + at, Check.BOUNDS,
                    () -> x.store(0, Kinds.STORE_8_BYTES, p[0], p[1], -1));
        }
        for (int page = 0; page < 16; page++) {
            Check.equal("page " + page + " is not touched", x.sum(0, page * PAGE, PAGE), 0);
        }
    }

    private static void addressesHaveNoSign() {
        notThere(new int[][] {
            {-1, 0}, {0, -1}, {-8, 0}, {0, -8}, {LEAST_INT, 0}, {0, LEAST_INT}, {-1, 100}, {100, -1},
            {GREATEST_INT, 0}, {0, GREATEST_INT},
        });
    }

    private static void placesDoNotWrap() {
        notThere(new int[][] {
            {-1, 1}, {1, -1}, {-8, 8}, {-8, 16}, {16, -8}, {-PAGE, PAGE}, {PAGE, -PAGE}, {-100, PAGE},
            {LEAST_INT, LEAST_INT}, {GREATEST_INT, LEAST_INT + 1}, {GREATEST_INT, GREATEST_INT},
            {GREATEST_INT, 1}, {-1, -1}, {LEAST_INT, GREATEST_INT},
        });
    }

    private static void addressAndOffset() {
        PagedBytes x = withPages(16);
        int last = 16 * PAGE - 8;
        x.store(0, Kinds.STORE_8_BYTES, last, 0, 0x1122334455667788L);
        x.store(0, Kinds.STORE_8_BYTES, 3, 4, 0x0102030405060708L);
        for (int offset : new int[] {0, 1, PAGE, last / 2, last - 1, last}) {
            Check.equal("the last 8 bytes, offset " + offset,
                    x.load(0, Kinds.LOAD_8_BYTES, last - offset, offset), 0x1122334455667788L);
            Check.throwing("one place on, offset " + offset, Check.BOUNDS,
                    () -> x.load(0, Kinds.LOAD_8_BYTES, last - offset + 1, offset));
        }
        Check.equal("7 as 3 and 4", x.load(0, Kinds.LOAD_8_BYTES, 7, 0), 0x0102030405060708L);
        Check.equal("7 as 0 and 7", x.load(0, Kinds.LOAD_8_BYTES, 0, 7), 0x0102030405060708L);
    }

    private static void copyBelow0() {
        PagedBytes x = withPages(2);
        x.make(1, NONE);
        x.store(0, Kinds.STORE_8_BYTES, 0, 0, -1);
        for (int place : new int[] {-1, -2, -8, -1024, -4095, -4096, -PAGE, LEAST_INT, LEAST_INT + 1}) {
            for (int n : new int[] {1, 2, 4096}) {
                Check.throwing(n + " from " + place, Check.BOUNDS, () -> x.copy(0, place, 1, 0, n));
                Check.throwing(n + " to " + place, Check.BOUNDS, () -> x.copy(0, 0, 1, place, n));
            }
        }
        Check.equal("nothing is touched", x.sum(1, 0, PAGE), 0);
    }

    private static void sumBelow0() {
        PagedBytes x = withPages(2);
        for (int place : new int[] {-1, -2, -8, -1024, -PAGE + 1, -PAGE, LEAST_INT, LEAST_INT + 1}) {
            for (int n : new int[] {1, 2, PAGE}) {
                Check.throwing(n + " from " + place, Check.BOUNDS, () -> x.sum(0, place, n));
            }
        }
    }
}
