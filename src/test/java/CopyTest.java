/** Promise 8: copy(). */
public final class CopyTest {
    private static final int NONE = PagedBytes.NONE;
    private static final int[] COUNTS = {-1, 4097, Integer.MIN_VALUE, Integer.MAX_VALUE};

    public static void main(String[] args) {
        betweenMemories();
        overlapping();
        greatest();
        overOldBytes();
        nothing();
        bytesNotThere();
        wrongArguments();
        Check.end();
    }

    /** Bytes that differ from their neighbours, from a place on. */
    private static void fill(PagedBytes x, int m, int from, int n) {
        for (int i = 0; i < n; i++) {
            x.store(m, 0x3a, from + i, 0, mark(i));
        }
    }

    private static int mark(int i) {
        return (i * 37 + i / 256 + 129) & 0xff;
    }

    private static void betweenMemories() {
        PagedBytes x = new PagedBytes();
        x.make(1, NONE);
        x.make(2, 2);
        fill(x, 0, 1000, 100);
        x.copy(0, 1000, 1, 65490, 100);
        for (int i = 0; i < 100; i++) {
            Check.equal("copied byte " + i, x.load(1, 0x2d, 65490 + i, 0), mark(i));
            Check.equal("byte " + i + " stays", x.load(0, 0x2d, 1000 + i, 0), mark(i));
        }
        Check.equal("byte before", x.load(1, 0x2d, 65489, 0), 0);
        Check.equal("byte behind", x.load(1, 0x2d, 65590, 0), 0);
        Check.equal("same place of the source", x.load(0, 0x2d, 65490, 0), 0);
    }

    private static void overlapping() {
        for (int by : new int[] {-60, -7, -1, 0, 1, 7, 60}) {
            PagedBytes x = new PagedBytes();
            x.make(1, NONE);
            fill(x, 0, 1000, 90);
            x.copy(0, 1000, 0, 1000 + by, 90);
            for (int i = 0; i < 90; i++) {
                Check.equal("moved by " + by + ", byte " + i, x.load(0, 0x2d, 1000 + by + i, 0), mark(i));
            }
        }
    }

    private static void greatest() {
        PagedBytes x = new PagedBytes();
        x.make(16, NONE);
        int last = 16 * 65536 - 4096;
        for (int i = 0; i < 4096; i += 32) {
            x.store(0, 0x37, last + i, 0, marks(i));
        }
        x.store(0, 0x37, last + 4088, 0, -1);
        int sum = x.sum(0, last, 4096);
        x.copy(0, last, 0, 0, 4096);
        Check.equal("4096 bytes to the start", x.sum(0, 0, 4096), sum);
        x.copy(0, 0, 0, 65536 - 2048, 4096);
        Check.equal("4096 bytes over two pages", x.sum(0, 65536 - 2048, 4096), sum);
        x.copy(0, 0, 0, 1, 4096);
        Check.equal("4096 bytes by one", x.sum(0, 1, 4096), sum);
        Check.equal("the byte that stays", x.load(0, 0x2d, 0, 0), mark(0));
        Check.equal("the last of them", x.load(0, 0x2d, 4096, 0), 255);
        Check.equal("none behind them", x.load(0, 0x2d, 4097, 0), 0);
    }

    private static void overOldBytes() {
        PagedBytes x = new PagedBytes();
        x.make(1, NONE);
        x.make(1, NONE);
        for (int i = 0; i < 1600; i += 8) {
            x.store(0, 0x37, i, 0, marks(i));
        }
        x.copy(0, 400, 0, 10000, 900);
        x.copy(1, 30, 0, 400, 904);
        for (int i = 0; i < 1600; i += 8) {
            long due = i >= 400 && i < 1304 ? 0 : marks(i);
            Check.equal("zeros over bytes from " + i, x.load(0, 0x29, i, 0), due);
        }
        Check.equal("an older copy stays", x.load(0, 0x29, 10000, 0), marks(400));
        Check.equal("zeros where they came from", x.sum(1, 0, 65536), 0);
    }

    private static long marks(int from) {
        long number = 0;
        for (int i = 7; i >= 0; i--) {
            number = number << 8 | mark(from + i);
        }
        return number;
    }

    private static void nothing() {
        PagedBytes x = new PagedBytes();
        x.make(1, NONE);
        x.make(0, NONE);
        fill(x, 0, 0, 10);
        int sum = x.sum(0, 0, 65536);
        int[] places = {0, 5, -5, 65536, 65537, Integer.MIN_VALUE, Integer.MAX_VALUE};
        for (int from : places) {
            for (int to : places) {
                Check.throwing("none from " + from + " to " + to, null, () -> x.copy(0, from, 1, to, 0));
                Check.throwing("none back", null, () -> x.copy(1, from, 0, to, 0));
            }
        }
        Check.equal("nothing is touched", x.sum(0, 0, 65536), sum);
        Check.throwing("none of no memory", Check.ARGUMENT, () -> x.copy(2, 0, 0, 0, 0));
        Check.throwing("none to no memory", Check.ARGUMENT, () -> x.copy(0, 0, 2, 0, 0));
    }

    private static void bytesNotThere() {
        PagedBytes x = new PagedBytes();
        x.make(1, NONE);
        x.make(2, NONE);
        x.make(0, NONE);
        fill(x, 0, 0, 20);
        fill(x, 0, 65516, 20);
        int sum = x.sum(0, 0, 65536);
        int[] places = {65527, 65536, -1, -10, -65536, Integer.MIN_VALUE, Integer.MAX_VALUE, Integer.MAX_VALUE - 8};
        for (int place : places) {
            Check.throwing("from " + place, Check.BOUNDS, () -> x.copy(0, place, 1, 0, 10));
            Check.throwing("to " + place, Check.BOUNDS, () -> x.copy(1, 0, 0, place, 10));
            Check.throwing("from and to " + place, Check.BOUNDS, () -> x.copy(0, place, 0, place, 10));
        }
        Check.throwing("of an empty one", Check.BOUNDS, () -> x.copy(2, 0, 0, 0, 1));
        Check.throwing("to an empty one", Check.BOUNDS, () -> x.copy(0, 0, 2, 0, 1));
        Check.throwing("4096 over the end", Check.BOUNDS, () -> x.copy(1, 0, 0, 61441, 4096));
        Check.equal("nothing is touched", x.sum(0, 0, 65536), sum);
        Check.equal("nor in the other", x.sum(1, 0, 65536), 0);
        Check.throwing("the last ten", null, () -> x.copy(0, 65526, 1, 131062, 10));
        Check.equal("are copied", x.load(1, 0x2d, 131071, 0), mark(19));
    }

    private static void wrongArguments() {
        PagedBytes x = new PagedBytes();
        x.make(1, NONE);
        fill(x, 0, 0, 20);
        int sum = x.sum(0, 0, 65536);
        for (int n : COUNTS) {
            Check.throwing("n " + n, Check.ARGUMENT, () -> x.copy(0, 0, 0, 100, n));
            Check.throwing("n " + n + " far off", Check.ARGUMENT, () -> x.copy(0, -1, 0, 65536, n));
        }
        for (int m : new int[] {1, 24, -1, Integer.MIN_VALUE, Integer.MAX_VALUE}) {
            Check.throwing("from " + m, Check.ARGUMENT, () -> x.copy(m, 0, 0, 100, 5));
            Check.throwing("to " + m, Check.ARGUMENT, () -> x.copy(0, 0, m, 100, 5));
            Check.throwing("to " + m + " from far off", Check.ARGUMENT, () -> x.copy(0, -1, m, 100, 5));
        }
        Check.equal("nothing is touched", x.sum(0, 0, 65536), sum);
    }
}
