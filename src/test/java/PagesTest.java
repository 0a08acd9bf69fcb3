/** Promise 3: pages(). */
public final class PagesTest {
    public static void main(String[] args) {
        PagedBytes x = new PagedBytes();
        x.make(3, 9);
        x.make(0, PagedBytes.NONE);
        Check.equal("as made", x.pages(0), 3);
        Check.equal("none", x.pages(1), 0);
        x.grow(0, 2);
        Check.equal("after it grew", x.pages(0), 5);
        x.grow(0, 5);
        Check.equal("after it could not", x.pages(0), 5);
        Check.equal("the other", x.pages(1), 0);
        for (int m : new int[] {2, 23, 24, -1, Integer.MIN_VALUE, Integer.MAX_VALUE}) {
            Check.throwing("pages " + m, Check.ARGUMENT, () -> x.pages(m));
        }
        Check.end();
    }
}
