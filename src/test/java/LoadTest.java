/** Promise 6: load(). */
public final class LoadTest {
    private static final int FIRST = 0x28;
    private static final int LAST = 0x35;
    private static final int[] BYTES = {4, 8, 4, 8, 1, 1, 2, 2, 1, 1, 2, 2, 4, 4};

    public static void main(String[] args) {
        highBitsSet();
        highBitsClear();
        anyPlace();
        edges();
        addressAndOffset();
        wrongArguments();
        Check.end();
    }

    private static void all(long stored, long[] due) {
        PagedBytes x = new PagedBytes();
        x.make(1, PagedBytes.NONE);
        x.store(0, 0x37, 101, 0, stored);
        for (int operation = FIRST; operation <= LAST; operation++) {
            String what = "load " + Integer.toHexString(operation) + " of " + Long.toHexString(stored);
            Check.equal(what, x.load(0, operation, 100, 1), due[operation - FIRST]);
        }
    }

    private static void highBitsSet() {
        all(0xfedcba9886a4c2e0L, new long[] {
            0x86a4c2e0L, 0xfedcba9886a4c2e0L, 0x86a4c2e0L, 0xfedcba9886a4c2e0L,
            0xffffffe0L, 0xe0L, 0xffffc2e0L, 0xc2e0L,
            0xffffffffffffffe0L, 0xe0L, 0xffffffffffffc2e0L, 0xc2e0L,
            0xffffffff86a4c2e0L, 0x86a4c2e0L});
    }

    private static void highBitsClear() {
        all(0xf123456778654321L, new long[] {
            0x78654321L, 0xf123456778654321L, 0x78654321L, 0xf123456778654321L,
            0x21L, 0x21L, 0x4321L, 0x4321L, 0x21L, 0x21L, 0x4321L, 0x4321L, 0x78654321L, 0x78654321L});
    }

    private static void anyPlace() {
        PagedBytes x = new PagedBytes();
        x.make(2, PagedBytes.NONE);
        for (int start : new int[] {0, 1020, 4090, 65530}) {
            for (int i = 0; i < 16; i++) {
                x.store(0, 0x3a, start + i, 0, 0x80 + i);
            }
            for (int i = 0; i < 8; i++) {
                long due = 0x8786858483828180L + i * 0x0101010101010101L;
                Check.equal("eight bytes at " + (start + i), x.load(0, 0x29, start + i, 0), due);
            }
        }
    }

    private static void edges() {
        PagedBytes x = new PagedBytes();
        x.make(1, PagedBytes.NONE);
        x.make(0, PagedBytes.NONE);
        x.make(1, PagedBytes.NONE);
        for (int operation = FIRST; operation <= LAST; operation++) {
            int load = operation;
            int last = 65536 - BYTES[operation - FIRST];
            String what = "load " + Integer.toHexString(operation);
            Check.equal(what + " of the last bytes", x.load(0, operation, last, 0), 0);
            Check.throwing(what + " over the end", Check.BOUNDS, () -> x.load(0, load, last + 1, 0));
            Check.throwing(what + " over the end by offset", Check.BOUNDS, () -> x.load(0, load, 1, last));
            Check.throwing(what + " behind the end", Check.BOUNDS, () -> x.load(0, load, 65536, 0));
            Check.throwing(what + " of no bytes", Check.BOUNDS, () -> x.load(1, load, 0, 0));
        }
    }

    private static void addressAndOffset() {
        PagedBytes x = new PagedBytes();
        x.make(16, PagedBytes.NONE);
        x.store(0, 0x37, 0, 0, -1);
        int[][] far = {
            {-1, 1}, {1, -1}, {-1, 0}, {0, -1}, {-1, -1}, {-4, 8}, {8, -4}, {Integer.MIN_VALUE, Integer.MIN_VALUE},
            {Integer.MAX_VALUE, 1}, {Integer.MAX_VALUE, Integer.MAX_VALUE}, {Integer.MAX_VALUE, Integer.MIN_VALUE},
            {Integer.MIN_VALUE, 0}, {-65536, 65536}, {16 * 65536, 0}, {0, 16 * 65536}, {8 * 65536, 8 * 65536},
        };
        for (int[] f : far) {
            Check.throwing("load at " + f[0] + " and " + f[1], Check.BOUNDS, () -> x.load(0, 0x2d, f[0], f[1]));
        }
        Check.equal("3 and 4", x.load(0, 0x2d, 3, 4), 255);
        Check.equal("the last byte", x.load(0, 0x2d, 8 * 65536, 8 * 65536 - 1), 0);
    }

    private static void wrongArguments() {
        PagedBytes x = new PagedBytes();
        x.make(1, PagedBytes.NONE);
        int[] noLoads = {0x27, 0x36, 0x37, 0x3e, 0x3f, 0, 28, -1, Integer.MIN_VALUE, Integer.MAX_VALUE, 0x128};
        for (int operation : noLoads) {
            Check.throwing("load " + operation, Check.ARGUMENT, () -> x.load(0, operation, 0, 0));
            Check.throwing("load " + operation + " far off", Check.ARGUMENT, () -> x.load(0, operation, -1, -1));
        }
        for (int m : new int[] {1, 24, -1, Integer.MIN_VALUE, Integer.MAX_VALUE}) {
            Check.throwing("load of " + m, Check.ARGUMENT, () -> x.load(m, 0x28, 0, 0));
            Check.throwing("load of " + m + " far off", Check.ARGUMENT, () -> x.load(m, 0x28, -1, -1));
        }
    }
}
