/** Promises 1 to 5: a test for each sentence, and each part of one, that names a boundary case. */
public final class EdgesOfPagesTest {
    private static final int NONE = PagedBytes.NONE;
    private static final int LEAST_INT = Integer.MIN_VALUE;
    private static final int GREATEST_INT = Integer.MAX_VALUE;

    public static void main(String[] args) {
        Check.sentence("1: No memories", EdgesOfPagesTest::noMemories);
        make();
        Check.sentence("3: How many pages a memory has", EdgesOfPagesTest::pagesFromNoneToAll);
        grow();
        fits();
        Check.end();
    }

    private static void make() {
        Check.sentence("2: its number", EdgesOfPagesTest::numberIsTheNextFree);
        Check.sentence("2: with so many pages", EdgesOfPagesTest::leastIsThePages);
        Check.sentence("2: a most (NONE: without one)", EdgesOfPagesTest::noneIsNoMost);
        Check.sentence("2: least is not 0 .. 65536, too small", EdgesOfPagesTest::leastTooSmall);
        Check.sentence("2: least is not 0 .. 65536, too large", EdgesOfPagesTest::leastTooLarge);
        Check.sentence("2: or most below it", EdgesOfPagesTest::mostBelowLeast);
        Check.sentence("2: or above 65536", EdgesOfPagesTest::mostTooLarge);
        Check.sentence("2: IllegalStateException: there are 24", EdgesOfPagesTest::thereAre24);
        Check.sentence("2: all would have more than 16 pages", EdgesOfPagesTest::moreThan16);
    }

    private static void grow() {
        Check.sentence("4: n pages more (without a sign)", EdgesOfPagesTest::growthHasNoSign);
        Check.sentence("4: of zeros", EdgesOfPagesTest::growthIsOfZeros);
        Check.sentence("4: no more than its most then", EdgesOfPagesTest::growthUpToTheMost);
        Check.sentence("4: (65536 without one)", EdgesOfPagesTest::growthWithoutAMost);
        Check.sentence("4: and all together no more than 16", EdgesOfPagesTest::growthUpTo16);
        Check.sentence("4: how many it had", EdgesOfPagesTest::howManyItHad);
        Check.sentence("4: else NONE", EdgesOfPagesTest::refusedGrowthChangesNothing);
    }

    private static void fits() {
        Check.sentence("5: at least so many pages", EdgesOfPagesTest::atLeastSoMany);
        Check.sentence("5: so many pages as it has now", EdgesOfPagesTest::asManyAsNow);
        Check.sentence("5: if most is not NONE", EdgesOfPagesTest::anyMostForNone);
        Check.sentence("5: with a most", EdgesOfPagesTest::withoutAMost);
        Check.sentence("5: no greater than that", EdgesOfPagesTest::noGreaterMost);
        Check.sentence("5: both are wanted", EdgesOfPagesTest::bothAreWanted);
    }

    private static void noMemories() {
        PagedBytes x = new PagedBytes();
        for (int m = -1; m <= 25; m++) {
            int number = m;
            Check.throwing("memory " + m, Check.ARGUMENT, () -> x.pages(number));
        }
        Check.equal("all 16 pages are free", x.make(16, NONE), 0);
        for (int m = 1; m < 24; m++) {
            Check.equal("and all 24 numbers", x.make(0, NONE), m);
        }
    }

    private static void numberIsTheNextFree() {
        PagedBytes x = new PagedBytes();
        Check.equal("the first", x.make(0, NONE), 0);
        Check.throwing("a wrong one", Check.ARGUMENT, () -> x.make(-1, NONE));
        Check.equal("the second", x.make(16, NONE), 1);
        Check.throwing("one without room", Check.UNSUPPORTED, () -> x.make(1, NONE));
        Check.equal("the third", x.make(0, 0), 2);
    }

    private static void leastIsThePages() {
        for (int least = 0; least <= 16; least++) {
            PagedBytes x = new PagedBytes();
            x.make(least, 65536);
            Check.equal("pages at first", x.pages(0), least);
        }
    }

    private static void noneIsNoMost() {
        PagedBytes x = new PagedBytes();
        Check.equal("NONE is not below 5", x.make(5, NONE), 0);
        Check.isFalse("a most for it", x.fits(0, 0, GREATEST_INT));
        Check.equal("none keeps it from growing", x.grow(0, 11), 5);
    }

    private static void leastTooSmall() {
        for (int least : new int[] {-1, -2, -65536, LEAST_INT}) {
            PagedBytes x = new PagedBytes();
            Check.throwing("least " + least, Check.ARGUMENT, () -> x.make(least, NONE));
            Check.throwing("least " + least + ", a most", Check.ARGUMENT, () -> x.make(least, 10));
            Check.throwing("least " + least + " twice", Check.ARGUMENT, () -> x.make(least, least));
        }
        PagedBytes x = new PagedBytes();
        Check.equal("least 0", x.make(0, NONE), 0);
        Check.equal("least 0, a most", x.make(0, 10), 1);
    }

    private static void leastTooLarge() {
        PagedBytes x = new PagedBytes();
        for (int least : new int[] {65537, 131072, GREATEST_INT}) {
            Check.throwing("least " + least, Check.ARGUMENT, () -> x.make(least, NONE));
            Check.throwing("least " + least + " twice", Check.ARGUMENT, () -> x.make(least, least));
        }
        Check.throwing("65536 for all", Check.UNSUPPORTED, () -> x.make(65536, NONE));
        Check.throwing("65536 twice for all", Check.UNSUPPORTED, () -> x.make(65536, 65536));
    }

    private static void mostBelowLeast() {
        int[][] below = {{1, 0}, {2, 1}, {16, 15}, {17, 16}, {65536, 65535}, {0, -2}, {3, -2}, {0, LEAST_INT}};
        PagedBytes x = new PagedBytes();
        for (int[] b : below) {
            Check.throwing(b[0] + " and " + b[1], Check.ARGUMENT, () -> x.make(b[0], b[1]));
        }
        Check.equal("0 and 0", x.make(0, 0), 0);
        Check.equal("1 and 1", x.make(1, 1), 1);
        Check.equal("15 and 15", x.make(15, 15), 2);
    }

    private static void mostTooLarge() {
        PagedBytes x = new PagedBytes();
        for (int most : new int[] {65537, 131072, GREATEST_INT}) {
            Check.throwing("0 and " + most, Check.ARGUMENT, () -> x.make(0, most));
            Check.throwing("16 and " + most, Check.ARGUMENT, () -> x.make(16, most));
        }
        Check.equal("0 and 65536", x.make(0, 65536), 0);
        Check.equal("16 and 65536", x.make(16, 65536), 1);
    }

    private static void thereAre24() {
        PagedBytes x = new PagedBytes();
        for (int m = 0; m < 23; m++) {
            x.make(0, 0);
        }
        Check.equal("the 24th", x.make(0, NONE), 23);
        Check.throwing("a 25th", Check.STATE, () -> x.make(0, NONE));
        Check.throwing("a 25th with a most", Check.STATE, () -> x.make(0, 0));
        Check.equal("those there are can grow", x.grow(23, 16), 0);
        Check.throwing("a 25th later", Check.STATE, () -> x.make(0, NONE));
    }

    private static void moreThan16() {
        for (int had = 0; had <= 16; had++) {
            PagedBytes x = new PagedBytes();
            x.make(had, NONE);
            int room = 16 - had;
            Check.throwing(had + " and " + (room + 1), Check.UNSUPPORTED, () -> x.make(room + 1, NONE));
            Check.throwing(had + " and 65536", Check.UNSUPPORTED, () -> x.make(65536, 65536));
            Check.equal(had + " and " + room, x.make(room, 65536), 1);
        }
    }

    private static void pagesFromNoneToAll() {
        PagedBytes x = new PagedBytes();
        x.make(0, NONE);
        x.make(0, 0);
        for (int pages = 0; pages < 16; pages++) {
            Check.equal("pages", x.pages(0), pages);
            x.grow(0, 1);
        }
        Check.equal("all pages", x.pages(0), 16);
        Check.equal("none", x.pages(1), 0);
    }

    private static void growthHasNoSign() {
        int[] great = {-1, -2, -3, -4, -16, -65536, LEAST_INT, LEAST_INT + 1, GREATEST_INT};
        for (int most : new int[] {NONE, 3, 65536}) {
            PagedBytes x = new PagedBytes();
            x.make(3, most);
            for (int n : great) {
                Check.equal("growing by " + n + ", most " + most, x.grow(0, n), NONE);
                Check.equal("pages after " + n, x.pages(0), 3);
            }
        }
    }

    private static void growthIsOfZeros() {
        PagedBytes x = new PagedBytes();
        x.make(1, NONE);
        x.store(0, Kinds.STORE_8_BYTES, 65528, 0, -1);
        Check.throwing("a store over the end", Check.BOUNDS, () -> x.store(0, Kinds.STORE_8_BYTES, 65532, 0, -1));
        Check.throwing("a copy over the end", Check.BOUNDS, () -> x.copy(0, 65528, 0, 65532, 8));
        x.grow(0, 15);
        for (int page = 1; page < 16; page++) {
            Check.equal("page " + page, x.sum(0, page * 65536, 65536), 0);
        }
        Check.equal("what was there stays", x.load(0, Kinds.LOAD_8_BYTES, 65528, 0), -1);
    }

    private static void growthUpToTheMost() {
        for (int most = 0; most <= 15; most++) {
            PagedBytes x = new PagedBytes();
            x.make(most / 2, most);
            int room = most - most / 2;
            Check.equal("one beyond the most " + most, x.grow(0, room + 1), NONE);
            Check.equal("up to the most " + most, x.grow(0, room), most / 2);
            Check.equal("none beyond the most " + most, x.grow(0, 0), most);
            Check.equal("one beyond the most " + most + " again", x.grow(0, 1), NONE);
        }
    }

    private static void growthWithoutAMost() {
        for (int most : new int[] {NONE, 65536}) {
            PagedBytes x = new PagedBytes();
            x.make(1, most);
            for (int n : new int[] {65534, 65535, 65536, 65537, 131071}) {
                Check.equal("growing by " + n + ", most " + most, x.grow(0, n), NONE);
            }
            Check.equal("growing by all there is", x.grow(0, 15), 1);
        }
    }

    private static void growthUpTo16() {
        for (int others = 0; others <= 16; others++) {
            PagedBytes x = new PagedBytes();
            x.make(0, NONE);
            x.make(others, others);
            x.make(0, 65536);
            int room = 16 - others;
            Check.equal("one too many beside " + others, x.grow(0, room + 1), NONE);
            Check.equal("with a great most too", x.grow(2, room + 1), NONE);
            Check.equal("all beside " + others, x.grow(0, room), 0);
            Check.equal("none when full", x.grow(2, 0), 0);
            Check.equal("one when full", x.grow(2, 1), NONE);
        }
    }

    private static void howManyItHad() {
        PagedBytes x = new PagedBytes();
        x.make(0, 9);
        x.make(4, NONE);
        Check.equal("none by none", x.grow(0, 0), 0);
        Check.equal("none by 9", x.grow(0, 9), 0);
        Check.equal("9 by none", x.grow(0, 0), 9);
        Check.equal("4 by 1", x.grow(1, 1), 4);
        Check.equal("5 by 2", x.grow(1, 2), 5);
        Check.equal("7 by none", x.grow(1, 0), 7);
    }

    private static void refusedGrowthChangesNothing() {
        PagedBytes x = new PagedBytes();
        x.make(2, 4);
        x.make(5, NONE);
        x.store(0, Kinds.STORE_BYTE, 131071, 0, 9);
        for (int n : new int[] {3, 10, 65536, -1, -2, LEAST_INT}) {
            Check.equal("growing by " + n, x.grow(0, n), NONE);
        }
        Check.equal("beyond all", x.grow(1, 10), NONE);
        Check.equal("pages of it", x.pages(0), 2);
        Check.equal("pages of the other", x.pages(1), 5);
        Check.equal("its last byte", x.load(0, Kinds.LOAD_BYTE, 131071, 0), 9);
        Check.throwing("none behind it", Check.BOUNDS, () -> x.load(0, Kinds.LOAD_BYTE, 131072, 0));
        Check.equal("what was free is free", x.grow(1, 9), 5);
    }

    private static void atLeastSoMany() {
        for (int pages = 0; pages <= 16; pages++) {
            PagedBytes x = new PagedBytes();
            x.make(pages, NONE);
            Check.isTrue("0 of " + pages, x.fits(0, 0, NONE));
            Check.isTrue("all of " + pages, x.fits(0, pages, NONE));
            Check.isFalse("one more than " + pages, x.fits(0, pages + 1, NONE));
            Check.isFalse("65536 of " + pages, x.fits(0, 65536, NONE));
            Check.isFalse("the greatest of " + pages, x.fits(0, GREATEST_INT, NONE));
        }
    }

    private static void asManyAsNow() {
        PagedBytes x = new PagedBytes();
        x.make(2, 10);
        Check.isFalse("what it may have, but has not", x.fits(0, 3, 10));
        x.grow(0, 20);
        Check.isFalse("after it could not grow", x.fits(0, 3, 10));
        x.grow(0, 1);
        Check.isTrue("after it grew", x.fits(0, 3, 10));
        Check.isFalse("one more", x.fits(0, 4, 10));
    }

    private static void anyMostForNone() {
        PagedBytes x = new PagedBytes();
        x.make(0, NONE);
        x.make(0, 0);
        x.make(0, 65536);
        for (int m = 0; m < 3; m++) {
            Check.isTrue("memory " + m, x.fits(m, 0, NONE));
            Check.isFalse("below NONE is not NONE, memory " + m, x.fits(m, 0, NONE - 1));
        }
    }

    private static void withoutAMost() {
        PagedBytes x = new PagedBytes();
        x.make(1, NONE);
        for (int most : new int[] {0, 1, 16, 65535, 65536, 65537, GREATEST_INT, -2, LEAST_INT}) {
            Check.isFalse("a most of " + most, x.fits(0, 0, most));
        }
    }

    private static void noGreaterMost() {
        int[] mosts = {0, 1, 15, 16, 17, 65535, 65536};
        PagedBytes x = new PagedBytes();
        for (int m = 0; m < mosts.length; m++) {
            x.make(0, mosts[m]);
            Check.isTrue("its own most " + mosts[m], x.fits(m, 0, mosts[m]));
            Check.isTrue("one more than " + mosts[m], x.fits(m, 0, mosts[m] + 1));
            Check.isTrue("the greatest", x.fits(m, 0, GREATEST_INT));
            if (mosts[m] > 0) {
                Check.isFalse("one less than " + mosts[m], x.fits(m, 0, mosts[m] - 1));
            }
        }
    }

    private static void bothAreWanted() {
        PagedBytes x = new PagedBytes();
        x.make(3, 5);
        Check.isTrue("both", x.fits(0, 3, 5));
        Check.isFalse("too few pages", x.fits(0, 4, 5));
        Check.isFalse("too great a most", x.fits(0, 3, 4));
        Check.isFalse("neither", x.fits(0, 4, 4));
    }
}
