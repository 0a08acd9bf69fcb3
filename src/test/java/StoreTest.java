/** Promise 7: store(). */
public final class StoreTest {
    private static final int FIRST = 0x36;
    private static final int LAST = 0x3e;
    private static final int[] BYTES = {4, 8, 4, 8, 1, 2, 1, 2, 4};
    private static final long VALUE = 0xfedcba9876543210L;

    public static void main(String[] args) {
        for (int operation = FIRST; operation <= LAST; operation++) {
            for (int place : new int[] {8, 1021, 4093, 65533}) {
                lowestBytes(operation, place);
            }
            edges(operation);
        }
        addressAndOffset();
        wrongArguments();
        memoriesAreApart();
        Check.end();
    }

    private static void lowestBytes(int operation, int place) {
        PagedBytes x = new PagedBytes();
        x.make(2, PagedBytes.NONE);
        for (int at = place - 8; at < place + 16; at += 8) {
            x.store(0, 0x37, at, 0, 0x5555555555555555L);
        }
        x.store(0, operation, place - 3, 3, VALUE);
        for (int i = -8; i < 16; i++) {
            boolean inside = i >= 0 && i < BYTES[operation - FIRST];
            long due = inside ? VALUE >>> 8 * i & 0xff : 0x55;
            String what = "store " + Integer.toHexString(operation) + " at " + place + ", byte " + i;
            Check.equal(what, x.load(0, 0x2d, place + i, 0), due);
        }
    }

    private static void edges(int operation) {
        PagedBytes x = new PagedBytes();
        x.make(1, PagedBytes.NONE);
        x.make(0, PagedBytes.NONE);
        x.make(1, PagedBytes.NONE);
        int last = 65536 - BYTES[operation - FIRST];
        String what = "store " + Integer.toHexString(operation);
        Check.throwing(what + " over the end", Check.BOUNDS, () -> x.store(0, operation, last + 1, 0, -1));
        Check.throwing(what + " over the end by offset", Check.BOUNDS, () -> x.store(0, operation, 1, last, -1));
        Check.throwing(what + " behind the end", Check.BOUNDS, () -> x.store(0, operation, 65536, 0, -1));
        Check.throwing(what + " of no bytes", Check.BOUNDS, () -> x.store(1, operation, 0, 0, -1));
        Check.equal("nothing is touched", x.sum(0, 0, 65536), 0);
        Check.equal("nor behind", x.sum(2, 0, 65536), 0);
        x.store(0, operation, last, 0, -1);
        Check.equal(what + " of the last byte", x.load(0, 0x2d, 65535, 0), 255);
        Check.equal(what + " before it", x.load(0, 0x2d, last - 1, 0), 0);
        x.grow(0, 1);
        Check.equal("nothing came behind the end", x.sum(0, 65536, 65536), 0);
    }

    private static void addressAndOffset() {
        PagedBytes x = new PagedBytes();
        x.make(16, PagedBytes.NONE);
        int[][] far = {
            {-1, 1}, {1, -1}, {-1, 0}, {0, -1}, {-1, -1}, {-4, 8}, {Integer.MIN_VALUE, Integer.MIN_VALUE},
            {Integer.MAX_VALUE, Integer.MAX_VALUE}, {Integer.MIN_VALUE, 0}, {16 * 65536, 0}, {8 * 65536, 8 * 65536},
        };
        for (int[] f : far) {
            Check.throwing("store at " + f[0] + " and " + f[1], Check.BOUNDS, () -> x.store(0, 0x3a, f[0], f[1], -1));
        }
        for (int page = 0; page < 16; page++) {
            Check.equal("page " + page + " is not touched", x.sum(0, page * 65536, 65536), 0);
        }
    }

    private static void wrongArguments() {
        PagedBytes x = new PagedBytes();
        x.make(1, PagedBytes.NONE);
        int[] noStores = {0x35, 0x28, 0x3f, 0x40, 0, 36, -1, Integer.MIN_VALUE, Integer.MAX_VALUE, 0x136};
        for (int operation : noStores) {
            Check.throwing("store " + operation, Check.ARGUMENT, () -> x.store(0, operation, 0, 0, -1));
            Check.throwing("store " + operation + " far off", Check.ARGUMENT, () -> x.store(0, operation, -1, -1, -1));
        }
        for (int m : new int[] {1, 24, -1, Integer.MIN_VALUE, Integer.MAX_VALUE}) {
            Check.throwing("store of " + m, Check.ARGUMENT, () -> x.store(m, 0x36, 0, 0, -1));
            Check.throwing("store of " + m + " far off", Check.ARGUMENT, () -> x.store(m, 0x36, -1, -1, -1));
        }
        Check.equal("nothing is touched", x.sum(0, 0, 65536), 0);
    }

    private static void memoriesAreApart() {
        PagedBytes x = new PagedBytes();
        for (int m = 0; m < 16; m++) {
            x.make(1, PagedBytes.NONE);
            x.store(m, 0x3e, 4096, 0, 1000 + m);
        }
        for (int m = 0; m < 16; m++) {
            Check.equal("memory " + m, x.load(m, 0x28, 4096, 0), 1000 + m);
        }
    }
}
