/** Promise 9: sum(). */
public final class SumTest {
    private static final int NONE = PagedBytes.NONE;

    public static void main(String[] args) {
        ordinary();
        wrapping();
        nothing();
        bytesNotThere();
        wrongArguments();
        Check.end();
    }

    private static void ordinary() {
        PagedBytes x = new PagedBytes();
        x.make(2, NONE);
        for (int start : new int[] {0, 1022, 4094, 65534}) {
            x.store(0, 0x36, start, 0, 0x80ff0201L);
            Check.equal("four at " + start, x.sum(0, start, 4), 4 * 1 + 3 * 2 + 2 * 255 + 128);
            Check.equal("two at " + start, x.sum(0, start, 2), 2 * 1 + 2);
            Check.equal("one behind " + start, x.sum(0, start + 3, 1), 128);
            Check.equal("six at " + start, x.sum(0, start, 6), 6 * 1 + 5 * 2 + 4 * 255 + 3 * 128);
        }
    }

    private static void wrapping() {
        PagedBytes x = new PagedBytes();
        x.make(1, NONE);
        x.store(0, 0x37, 0, 0, -1);
        for (int n = 8; n < 4096; n += n) {
            x.copy(0, 0, 0, n, n);
        }
        for (int to = 4096; to < 65536; to += 4096) {
            x.copy(0, 0, 0, to, 4096);
        }
        int due = 0;
        for (int weight = 65536; weight > 0; weight--) {
            due += 255 * weight;
        }
        Check.equal("65536 bytes of 255", x.sum(0, 0, 65536), due);
        x.store(0, 0x37, 0, 0, 0);
        for (int weight = 65536; weight > 65528; weight--) {
            due -= 255 * weight;
        }
        Check.equal("without the first eight", x.sum(0, 0, 65536), due);
    }

    private static void nothing() {
        PagedBytes x = new PagedBytes();
        x.make(1, NONE);
        x.make(0, NONE);
        x.store(0, 0x37, 0, 0, -1);
        for (int from : new int[] {0, 3, -1, 65535, 65536, 65537, Integer.MIN_VALUE, Integer.MAX_VALUE}) {
            Check.equal("none from " + from, x.sum(0, from, 0), 0);
            Check.equal("none of an empty one from " + from, x.sum(1, from, 0), 0);
        }
        Check.throwing("none of no memory", Check.ARGUMENT, () -> x.sum(2, 0, 0));
    }

    private static void bytesNotThere() {
        PagedBytes x = new PagedBytes();
        x.make(1, NONE);
        x.make(0, NONE);
        x.make(16 - 1, NONE);
        for (int from : new int[] {65536, -1, -65536, Integer.MIN_VALUE, Integer.MAX_VALUE}) {
            Check.throwing("one from " + from, Check.BOUNDS, () -> x.sum(0, from, 1));
            Check.throwing("65536 from " + from, Check.BOUNDS, () -> x.sum(0, from, 65536));
        }
        Check.throwing("over the end", Check.BOUNDS, () -> x.sum(0, 1, 65536));
        Check.throwing("over the end by one", Check.BOUNDS, () -> x.sum(0, 65535, 2));
        Check.throwing("of an empty one", Check.BOUNDS, () -> x.sum(1, 0, 1));
        Check.equal("the last byte", x.sum(0, 65535, 1), 0);
        Check.equal("the last page", x.sum(2, 14 * 65536, 65536), 0);
        Check.throwing("over the last page", Check.BOUNDS, () -> x.sum(2, 14 * 65536 + 1, 65536));
    }

    private static void wrongArguments() {
        PagedBytes x = new PagedBytes();
        x.make(2, NONE);
        for (int n : new int[] {-1, 65537, Integer.MIN_VALUE, Integer.MAX_VALUE}) {
            Check.throwing("n " + n, Check.ARGUMENT, () -> x.sum(0, 0, n));
            Check.throwing("n " + n + " far off", Check.ARGUMENT, () -> x.sum(0, -1, n));
        }
        for (int m : new int[] {1, 24, -1, Integer.MIN_VALUE, Integer.MAX_VALUE}) {
            Check.throwing("sum of " + m, Check.ARGUMENT, () -> x.sum(m, 0, 1));
            Check.throwing("sum of " + m + " far off", Check.ARGUMENT, () -> x.sum(m, -1, 1));
        }
    }
}
