import java.util.ArrayList;
import java.util.List;

/** "Terms": no such memory, the order of the exceptions, and "A call that throws changes nothing". */
public final class RefusedCallsTest {
    private static final int NONE = PagedBytes.NONE;
    private static final int PAGE = 65536;
    private static final int LEAST_INT = Integer.MIN_VALUE;
    private static final int GREATEST_INT = Integer.MAX_VALUE;
    private static final int[] NO_MEMORIES = {-1, 4, 5, 23, 24, 25, LEAST_INT, GREATEST_INT};
    private static final int NO_LOAD = 0x36;
    private static final int NO_STORE = 0x35;

    private static final List<Long> FEW = asked(few(), 4);
    private static final List<Long> ALL = asked(all(), 24);

    public static void main(String[] args) {
        Check.sentence("IllegalArgumentException: there is no such memory", RefusedCallsTest::noSuchMemory);
        Check.sentence("the one named first when several would do: make", RefusedCallsTest::orderOfMake);
        Check.sentence("the one named first when several would do: load", RefusedCallsTest::orderOfLoad);
        Check.sentence("the one named first when several would do: store", RefusedCallsTest::orderOfStore);
        Check.sentence("the one named first when several would do: copy", RefusedCallsTest::orderOfCopy);
        Check.sentence("the one named first when several would do: sum", RefusedCallsTest::orderOfSum);
        Check.sentence("A call that throws changes nothing: make", RefusedCallsTest::refusedMakes);
        Check.sentence("A call that throws changes nothing: store", RefusedCallsTest::refusedStores);
        Check.sentence("A call that throws changes nothing: copy", RefusedCallsTest::refusedCopies);
        Check.sentence("A call that throws changes nothing: pages, grow, fits, load, sum",
                RefusedCallsTest::refusedQuestions);
        Check.end();
    }

    private interface Use {
        void of(PagedBytes x);
    }

    /** Four memories with 4 pages, and bytes at their edges. */
    private static PagedBytes few() {
        PagedBytes x = new PagedBytes();
        x.make(1, 3);
        x.make(2, NONE);
        x.make(0, 0);
        x.make(1, 9);
        for (int at : new int[] {0, 1021, PAGE - 8}) {
            x.store(0, Kinds.STORE_8_BYTES, at, 0, 0x1817161514131211L + at);
            x.store(1, Kinds.STORE_8_BYTES, at + PAGE, 0, 0x2827262524232221L + at);
        }
        x.store(1, Kinds.STORE_8_BYTES, PAGE - 4, 0, 0x3837363534333231L);
        return x;
    }

    /** As many memories as there may be, with all the pages there may be. */
    private static PagedBytes all() {
        PagedBytes x = new PagedBytes();
        for (int m = 0; m < 24; m++) {
            x.make(m < 16 ? 1 : 0, m % 2 == 0 ? NONE : 2);
            if (m < 16) {
                x.store(m, Kinds.STORE_BYTE, PAGE - 1, 0, m + 1);
            }
        }
        return x;
    }

    /**
     * What the object answers to whatever can be asked. It grows meanwhile, so it is asked once, at the end; and
     * only the last call may throw, for what the others changed by throwing would be the same in every object.
     */
    private static List<Long> asked(PagedBytes x, int memories) {
        List<Long> answers = new ArrayList<>();
        for (int m = 0; m < memories; m++) {
            askedOf(x, m, answers);
        }
        answers.add((long) x.grow(0, 1));
        for (int n = 16; n >= 0; n--) {
            answers.add((long) x.grow(1, n));
        }
        for (int m = 0; m < 4; m++) {
            answers.add((long) x.grow(m, 0));
            addSums(x, m, answers);
        }
        long[] next = {NONE};
        Check.thrownBy(() -> next[0] = x.make(0, NONE));
        answers.add(next[0]);
        return answers;
    }

    private static void askedOf(PagedBytes x, int m, List<Long> answers) {
        answers.add((long) x.pages(m));
        for (int most : new int[] {0, 1, 2, 3, 8, 9, 65536}) {
            answers.add(x.fits(m, 0, most) ? 1L : 0L);
        }
        addSums(x, m, answers);
    }

    private static void addSums(PagedBytes x, int m, List<Long> answers) {
        for (int page = 0; page < x.pages(m); page++) {
            answers.add((long) x.sum(m, page * PAGE, PAGE));
        }
    }

    private static void changesNothing(String what, Class<?> thrown, Use use) {
        PagedBytes x = few();
        Check.throwing(what, thrown, () -> use.of(x));
        Check.isTrue("all is as before " + what, asked(x, 4).equals(FEW));
    }

    private static void changesNothingOfAll(String what, Class<?> thrown, Use use) {
        PagedBytes x = all();
        Check.throwing(what, thrown, () -> use.of(x));
        Check.isTrue("all is as before " + what, asked(x, 24).equals(ALL));
    }

    private static void noSuchMemory() {
        PagedBytes x = few();
        for (int m : NO_MEMORIES) {
            Check.throwing("pages of " + m, Check.ARGUMENT, () -> x.pages(m));
            Check.throwing("grow of " + m, Check.ARGUMENT, () -> x.grow(m, 0));
            Check.throwing("fits of " + m, Check.ARGUMENT, () -> x.fits(m, 0, NONE));
            Check.throwing("load of " + m, Check.ARGUMENT, () -> x.load(m, Kinds.LOAD_BYTE, 0, 0));
            Check.throwing("store of " + m, Check.ARGUMENT, () -> x.store(m, Kinds.STORE_BYTE, 0, 0, 1));
            Check.throwing("copy from " + m, Check.ARGUMENT, () -> x.copy(m, 0, 0, 0, 1));
            Check.throwing("copy to " + m, Check.ARGUMENT, () -> x.copy(0, 0, m, 0, 1));
            Check.throwing("copy of nothing from " + m, Check.ARGUMENT, () -> x.copy(m, 0, 0, 0, 0));
            Check.throwing("copy of nothing to " + m, Check.ARGUMENT, () -> x.copy(0, 0, m, 0, 0));
            Check.throwing("sum of " + m, Check.ARGUMENT, () -> x.sum(m, 0, 1));
            Check.throwing("sum of nothing of " + m, Check.ARGUMENT, () -> x.sum(m, 0, 0));
        }
        Check.equal("the last there is", x.pages(3), 1);
        Check.equal("the next there will be", x.make(0, NONE), 4);
        Check.equal("is there then", x.pages(4), 0);
    }

    private static void orderOfMake() {
        PagedBytes x = all();
        for (int[] wrong : new int[][] {{-1, NONE}, {65537, NONE}, {1, 0}, {0, 65537}, {17, 16}, {0, -2}}) {
            String what = wrong[0] + " and " + wrong[1];
            Check.throwing(what + ", 24 memories, 16 pages", Check.ARGUMENT, () -> x.make(wrong[0], wrong[1]));
        }
        Check.throwing("24 memories, 17 pages", Check.STATE, () -> x.make(1, NONE));
        Check.throwing("24 memories, too many pages", Check.STATE, () -> x.make(65536, 65536));
        PagedBytes full = new PagedBytes();
        full.make(16, NONE);
        Check.throwing("65537 and 16 pages", Check.ARGUMENT, () -> full.make(65537, NONE));
        Check.throwing("17 and 16, and 16 pages", Check.ARGUMENT, () -> full.make(17, 16));
    }

    private static void orderOfLoad() {
        PagedBytes x = few();
        for (int m : NO_MEMORIES) {
            Check.throwing("no memory, no byte", Check.ARGUMENT, () -> x.load(m, Kinds.LOAD_BYTE, -1, -1));
            Check.throwing("no memory, no load, no byte", Check.ARGUMENT, () -> x.load(m, NO_LOAD, -1, -1));
        }
        Check.throwing("no load, no byte", Check.ARGUMENT, () -> x.load(0, NO_LOAD, PAGE, 0));
        Check.throwing("no load, no page", Check.ARGUMENT, () -> x.load(2, -1, 0, 0));
    }

    private static void orderOfStore() {
        PagedBytes x = few();
        for (int m : NO_MEMORIES) {
            Check.throwing("no memory, no byte", Check.ARGUMENT, () -> x.store(m, Kinds.STORE_BYTE, -1, -1, 1));
            Check.throwing("no memory, no store, no byte", Check.ARGUMENT, () -> x.store(m, NO_STORE, -1, -1, 1));
        }
        Check.throwing("no store, no byte", Check.ARGUMENT, () -> x.store(0, NO_STORE, PAGE, 0, 1));
        Check.throwing("no store, no page", Check.ARGUMENT, () -> x.store(2, -1, 0, 0, 1));
    }

    private static void orderOfCopy() {
        PagedBytes x = few();
        for (int m : NO_MEMORIES) {
            Check.throwing("from no memory, no byte", Check.ARGUMENT, () -> x.copy(m, -1, 0, PAGE, 1));
            Check.throwing("no byte, to no memory", Check.ARGUMENT, () -> x.copy(0, PAGE, m, 0, 1));
            Check.throwing("wrong n, to no memory", Check.ARGUMENT, () -> x.copy(0, 0, m, 0, -1));
        }
        for (int n : new int[] {-1, 4097, LEAST_INT, GREATEST_INT}) {
            Check.throwing("n " + n + ", no byte to copy", Check.ARGUMENT, () -> x.copy(0, PAGE, 1, 0, n));
            Check.throwing("n " + n + ", no place for it", Check.ARGUMENT, () -> x.copy(1, 0, 0, -1, n));
            Check.throwing("n " + n + ", no page", Check.ARGUMENT, () -> x.copy(2, 0, 2, 0, n));
        }
    }

    private static void orderOfSum() {
        PagedBytes x = few();
        for (int m : NO_MEMORIES) {
            Check.throwing("no memory, no byte", Check.ARGUMENT, () -> x.sum(m, -1, 1));
        }
        for (int n : new int[] {-1, 65537, LEAST_INT, GREATEST_INT}) {
            Check.throwing("n " + n + ", no byte", Check.ARGUMENT, () -> x.sum(0, PAGE, n));
            Check.throwing("n " + n + ", below 0", Check.ARGUMENT, () -> x.sum(0, -1, n));
            Check.throwing("n " + n + ", no page", Check.ARGUMENT, () -> x.sum(2, 0, n));
        }
    }

    private static void refusedMakes() {
        for (int[] wrong : new int[][] {{-1, NONE}, {65537, NONE}, {5, 4}, {1, 65537}, {0, -2}}) {
            String what = "make " + wrong[0] + " " + wrong[1];
            changesNothing(what, Check.ARGUMENT, x -> x.make(wrong[0], wrong[1]));
            changesNothingOfAll(what, Check.ARGUMENT, x -> x.make(wrong[0], wrong[1]));
        }
        changesNothing("make for too many pages", Check.UNSUPPORTED, x -> x.make(13, NONE));
        changesNothing("make for far too many pages", Check.UNSUPPORTED, x -> x.make(65536, 65536));
        changesNothingOfAll("a 25th", Check.STATE, x -> x.make(0, NONE));
        changesNothingOfAll("a 25th with pages", Check.STATE, x -> x.make(1, NONE));
    }

    private static void refusedStores() {
        for (int[] kind : Kinds.STORES) {
            String name = "store " + Kinds.name(kind[0]);
            for (int missing = 1; missing <= kind[1]; missing++) {
                int before = kind[1] - missing;
                changesNothing(name + ", missing " + missing, Check.BOUNDS,
                        x -> x.store(0, kind[0], PAGE - before, 0, -1));
                changesNothing(name + " of two pages, missing " + missing, Check.BOUNDS,
                        x -> x.store(1, kind[0], PAGE, PAGE - before, -1));
            }
            changesNothing(name + " to no page", Check.BOUNDS, x -> x.store(2, kind[0], 0, 0, -1));
            changesNothing(name + " far off", Check.BOUNDS, x -> x.store(0, kind[0], -1, 1, -1));
            changesNothing(name + " to no memory", Check.ARGUMENT, x -> x.store(4, kind[0], 0, 0, -1));
        }
        changesNothing("no store", Check.ARGUMENT, x -> x.store(0, NO_STORE, 0, 0, -1));
        changesNothing("no store behind them", Check.ARGUMENT, x -> x.store(0, 0x3f, 0, 0, -1));
    }

    private static void refusedCopies() {
        for (int n : new int[] {2, 1024, 4096}) {
            changesNothing("copy over its end", Check.BOUNDS, x -> x.copy(0, PAGE - n + 1, 1, 0, n));
            changesNothing("copy from below 0", Check.BOUNDS, x -> x.copy(0, -1, 1, 0, n));
            changesNothing("copy over the other's end", Check.BOUNDS, x -> x.copy(1, PAGE, 0, PAGE - n + 1, n));
            changesNothing("copy to below 0", Check.BOUNDS, x -> x.copy(1, PAGE, 0, -1, n));
            changesNothing("copy over its own end", Check.BOUNDS, x -> x.copy(0, 0, 0, PAGE - n + 1, n));
            changesNothing("copy to no page", Check.BOUNDS, x -> x.copy(0, 0, 2, 0, n));
            changesNothing("copy from no page", Check.BOUNDS, x -> x.copy(2, 0, 0, 0, n));
            changesNothing("copy to no memory", Check.ARGUMENT, x -> x.copy(0, 0, 4, 0, n));
            changesNothing("copy from no memory", Check.ARGUMENT, x -> x.copy(4, 0, 0, 0, n));
        }
        changesNothing("copy of too many", Check.ARGUMENT, x -> x.copy(0, 0, 1, 0, 4097));
        changesNothing("copy of fewer than none", Check.ARGUMENT, x -> x.copy(0, 0, 1, 4096, -1));
    }

    private static void refusedQuestions() {
        changesNothing("pages", Check.ARGUMENT, x -> x.pages(4));
        changesNothing("grow of none", Check.ARGUMENT, x -> x.grow(4, 1));
        changesNothing("grow of -1", Check.ARGUMENT, x -> x.grow(-1, 1));
        changesNothing("fits", Check.ARGUMENT, x -> x.fits(4, 0, NONE));
        changesNothing("load of no memory", Check.ARGUMENT, x -> x.load(4, Kinds.LOAD_BYTE, 0, 0));
        changesNothing("no load", Check.ARGUMENT, x -> x.load(0, NO_LOAD, 0, 0));
        changesNothing("load over the end", Check.BOUNDS, x -> x.load(0, Kinds.LOAD_8_BYTES, PAGE - 7, 0));
        changesNothing("sum of no memory", Check.ARGUMENT, x -> x.sum(4, 0, 1));
        changesNothing("sum of too many", Check.ARGUMENT, x -> x.sum(0, 0, 65537));
        changesNothing("sum over the end", Check.BOUNDS, x -> x.sum(0, 1, PAGE));
    }
}
