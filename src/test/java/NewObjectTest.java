/** Promise 1: a new object has no memories. */
public final class NewObjectTest {
    private static final int[] NUMBERS = {0, 1, 23, 24, -1, Integer.MIN_VALUE, Integer.MAX_VALUE};

    public static void main(String[] args) {
        for (int m : NUMBERS) {
            PagedBytes x = new PagedBytes();
            Check.throwing("pages " + m, Check.ARGUMENT, () -> x.pages(m));
            Check.throwing("grow " + m, Check.ARGUMENT, () -> x.grow(m, 0));
            Check.throwing("fits " + m, Check.ARGUMENT, () -> x.fits(m, 0, PagedBytes.NONE));
            Check.throwing("load " + m, Check.ARGUMENT, () -> x.load(m, 0x28, 0, 0));
            Check.throwing("store " + m, Check.ARGUMENT, () -> x.store(m, 0x36, 0, 0, 1));
            Check.throwing("copy " + m, Check.ARGUMENT, () -> x.copy(m, 0, m, 0, 0));
            Check.throwing("sum " + m, Check.ARGUMENT, () -> x.sum(m, 0, 0));
        }
        objectsAreApart();
        Check.end();
    }

    private static void objectsAreApart() {
        PagedBytes x = new PagedBytes();
        x.make(16, PagedBytes.NONE);
        x.store(0, 0x37, 0, 0, -1);
        PagedBytes y = new PagedBytes();
        Check.throwing("another's memory", Check.ARGUMENT, () -> y.pages(0));
        Check.equal("a first number of its own", y.make(16, PagedBytes.NONE), 0);
        Check.equal("bytes of its own", y.load(0, 0x29, 0, 0), 0);
    }
}
