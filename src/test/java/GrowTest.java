/** Promise 4: grow(). */
public final class GrowTest {
    private static final int NONE = PagedBytes.NONE;

    public static void main(String[] args) {
        upToItsMost();
        upToAllPages();
        withoutSign();
        newPages();
        wrongMemories();
        Check.end();
    }

    private static void upToItsMost() {
        PagedBytes x = new PagedBytes();
        x.make(1, 3);
        Check.equal("too many", x.grow(0, 3), NONE);
        Check.equal("one", x.grow(0, 1), 1);
        Check.equal("two more", x.grow(0, 2), NONE);
        Check.equal("one more", x.grow(0, 1), 2);
        Check.equal("none more", x.grow(0, 0), 3);
        Check.equal("beyond its most", x.grow(0, 1), NONE);
        Check.equal("pages", x.pages(0), 3);
        x.make(0, 0);
        Check.equal("none of none", x.grow(1, 0), 0);
        Check.equal("one of none", x.grow(1, 1), NONE);
    }

    private static void upToAllPages() {
        PagedBytes x = new PagedBytes();
        x.make(2, NONE);
        x.make(3, 65536);
        Check.equal("17 in all", x.grow(0, 12), NONE);
        Check.equal("15 in all", x.grow(0, 10), 2);
        Check.equal("17 in all again", x.grow(1, 2), NONE);
        Check.equal("16 in all", x.grow(1, 1), 3);
        Check.equal("full, none", x.grow(0, 0), 12);
        Check.equal("full, one", x.grow(0, 1), NONE);
        Check.equal("full, one of the other", x.grow(1, 1), NONE);
        Check.throwing("full for make too", Check.UNSUPPORTED, () -> x.make(1, NONE));
        PagedBytes y = new PagedBytes();
        y.make(0, NONE);
        Check.equal("all at once", y.grow(0, 16), 0);
        Check.equal("last byte", y.load(0, 0x2d, 16 * 65536 - 1, 0), 0);
    }

    private static void withoutSign() {
        PagedBytes x = new PagedBytes();
        x.make(5, 10);
        x.make(5, NONE);
        for (int n : new int[] {-1, -4, -5, -6, Integer.MIN_VALUE, Integer.MAX_VALUE, 65536, 65531, 65532}) {
            Check.equal("grow 0 by " + n, x.grow(0, n), NONE);
            Check.equal("grow 1 by " + n, x.grow(1, n), NONE);
        }
        Check.equal("pages of 0", x.pages(0), 5);
        Check.equal("pages of 1", x.pages(1), 5);
        Check.equal("pages in all are as before", x.grow(1, 6), 5);
    }

    private static void newPages() {
        PagedBytes x = new PagedBytes();
        x.make(1, NONE);
        x.make(1, NONE);
        x.store(0, 0x37, 65528, 0, 0x1122334455667788L);
        x.store(1, 0x37, 0, 0, -1);
        x.grow(0, 2);
        Check.equal("old bytes stay", x.load(0, 0x29, 65528, 0), 0x1122334455667788L);
        Check.equal("new bytes are 0", x.sum(0, 65536, 65536), 0);
        Check.equal("new bytes of the second page are 0", x.sum(0, 131072, 65536), 0);
        Check.throwing("no byte behind", Check.BOUNDS, () -> x.load(0, 0x2d, 3 * 65536, 0));
        x.store(0, 0x3a, 3 * 65536 - 1, 0, 9);
        Check.equal("the last byte", x.load(0, 0x2d, 3 * 65536 - 1, 0), 9);
        Check.equal("bytes of the other stay", x.load(1, 0x29, 0, 0), -1);
        Check.equal("as do its pages", x.pages(1), 1);
    }

    private static void wrongMemories() {
        PagedBytes x = new PagedBytes();
        x.make(1, NONE);
        for (int m : new int[] {1, 24, -1, Integer.MIN_VALUE, Integer.MAX_VALUE}) {
            Check.throwing("grow of " + m, Check.ARGUMENT, () -> x.grow(m, 1));
            Check.throwing("too great a grow of " + m, Check.ARGUMENT, () -> x.grow(m, -1));
        }
    }
}
