/** Promise 2: make(). */
public final class MakeTest {
    private static final int NONE = PagedBytes.NONE;

    public static void main(String[] args) {
        ordinary();
        wrongNumbers();
        edgesOfNumbers();
        tooMany();
        tooManyPages();
        orderOfExceptions();
        bytesAreZero();
        Check.end();
    }

    private static void ordinary() {
        PagedBytes x = new PagedBytes();
        Check.equal("first", x.make(1, 3), 0);
        Check.equal("second", x.make(0, NONE), 1);
        Check.equal("third", x.make(5, 5), 2);
        Check.equal("pages of 0", x.pages(0), 1);
        Check.equal("pages of 1", x.pages(1), 0);
        Check.equal("pages of 2", x.pages(2), 5);
    }

    private static void wrongNumbers() {
        PagedBytes x = new PagedBytes();
        int[][] wrong = {
            {-1, NONE}, {-1, 5}, {-1, -1}, {Integer.MIN_VALUE, NONE}, {65537, NONE}, {Integer.MAX_VALUE, NONE},
            {65537, 65537}, {2, 1}, {1, 0}, {0, -2}, {0, Integer.MIN_VALUE}, {0, 65537}, {0, Integer.MAX_VALUE},
            {65536, 65535}, {-5, -3},
        };
        for (int[] w : wrong) {
            Check.throwing("make " + w[0] + " " + w[1], Check.ARGUMENT, () -> x.make(w[0], w[1]));
        }
        Check.equal("no number was used", x.make(16, NONE), 0);
    }

    private static void edgesOfNumbers() {
        PagedBytes x = new PagedBytes();
        Check.equal("0 0", x.make(0, 0), 0);
        Check.equal("0 65536", x.make(0, 65536), 1);
        Check.throwing("65536 none", Check.UNSUPPORTED, () -> x.make(65536, NONE));
        Check.throwing("65536 65536", Check.UNSUPPORTED, () -> x.make(65536, 65536));
        Check.throwing("17 none", Check.UNSUPPORTED, () -> x.make(17, NONE));
        Check.equal("16 16", x.make(16, 16), 2);
    }

    private static void tooMany() {
        PagedBytes x = new PagedBytes();
        for (int i = 0; i < 24; i++) {
            Check.equal("memory " + i, x.make(0, i % 2 == 0 ? NONE : 65536), i);
        }
        Check.throwing("the 25th", Check.STATE, () -> x.make(0, NONE));
        Check.throwing("the 25th again", Check.STATE, () -> x.make(1, 2));
        Check.equal("the last is there", x.pages(23), 0);
        Check.throwing("a 25th is not", Check.ARGUMENT, () -> x.pages(24));
        Check.equal("no pages were used", x.grow(23, 16), 0);
    }

    private static void tooManyPages() {
        PagedBytes x = new PagedBytes();
        x.make(7, NONE);
        x.make(2, 4);
        x.grow(1, 1);
        Check.throwing("7 + 3 + 7", Check.UNSUPPORTED, () -> x.make(7, NONE));
        Check.throwing("no such memory yet", Check.ARGUMENT, () -> x.pages(2));
        Check.equal("7 + 3 + 6", x.make(6, NONE), 2);
        Check.throwing("one more", Check.UNSUPPORTED, () -> x.make(1, NONE));
        Check.equal("none more", x.make(0, NONE), 3);
    }

    private static void orderOfExceptions() {
        PagedBytes x = new PagedBytes();
        for (int i = 0; i < 24; i++) {
            x.make(i == 0 ? 16 : 0, NONE);
        }
        Check.throwing("wrong, and 24", Check.ARGUMENT, () -> x.make(65537, NONE));
        Check.throwing("wrong most, and 24", Check.ARGUMENT, () -> x.make(1, 0));
        Check.throwing("24, and pages", Check.STATE, () -> x.make(1, NONE));
    }

    private static void bytesAreZero() {
        PagedBytes x = new PagedBytes();
        x.make(1, NONE);
        for (int at = 0; at < 65536; at += 2048) {
            Check.equal("first bytes at " + at, x.load(0, 0x29, at, 0), 0);
        }
        x.store(0, 0x37, 0, 0, -1);
        x.make(1, NONE);
        Check.equal("bytes of another", x.load(1, 0x29, 0, 0), 0);
    }
}
