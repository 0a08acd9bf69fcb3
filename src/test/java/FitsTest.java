/** Promise 5: fits(). */
public final class FitsTest {
    private static final int NONE = PagedBytes.NONE;

    public static void main(String[] args) {
        PagedBytes x = new PagedBytes();
        x.make(2, NONE);
        x.make(3, 9);
        x.make(0, 0);
        x.make(1, 65536);
        pagesWanted(x);
        mostWanted(x);
        afterGrowing(x);
        for (int m : new int[] {4, 24, -1, Integer.MIN_VALUE, Integer.MAX_VALUE}) {
            Check.throwing("fits of " + m, Check.ARGUMENT, () -> x.fits(m, 0, NONE));
        }
        Check.end();
    }

    private static void pagesWanted(PagedBytes x) {
        Check.isTrue("fewer", x.fits(0, 1, NONE));
        Check.isTrue("as many", x.fits(0, 2, NONE));
        Check.isFalse("more", x.fits(0, 3, NONE));
        Check.isFalse("far more", x.fits(0, Integer.MAX_VALUE, NONE));
        Check.isTrue("below 0", x.fits(2, Integer.MIN_VALUE, NONE));
        Check.isFalse("more, with a most that would do", x.fits(1, 4, 9));
    }

    private static void mostWanted(PagedBytes x) {
        Check.isFalse("without a most, 65536 wanted", x.fits(0, 1, 65536));
        Check.isFalse("without a most, the greatest wanted", x.fits(0, 1, Integer.MAX_VALUE));
        Check.isFalse("without a most, below NONE wanted", x.fits(0, 1, -2));
        Check.isTrue("its own", x.fits(1, 3, 9));
        Check.isTrue("a greater", x.fits(1, 3, 10));
        Check.isFalse("a smaller", x.fits(1, 3, 8));
        Check.isTrue("none wanted", x.fits(1, 3, NONE));
        Check.isFalse("below NONE", x.fits(1, 0, -2));
        Check.isTrue("0 for 0", x.fits(2, 0, 0));
        Check.isFalse("below 0 for 0", x.fits(2, 0, Integer.MIN_VALUE));
        Check.isTrue("65536 for 65536", x.fits(3, 1, 65536));
        Check.isFalse("65536 for 65535", x.fits(3, 1, 65535));
    }

    private static void afterGrowing(PagedBytes x) {
        Check.isFalse("before it grew", x.fits(1, 4, 9));
        x.grow(1, 1);
        Check.isTrue("after it grew", x.fits(1, 4, 9));
        Check.isFalse("its most is as before", x.fits(1, 4, 8));
    }
}
