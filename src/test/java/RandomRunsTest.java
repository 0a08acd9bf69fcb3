import java.util.Random;

/** Runs of 512 calls with a fixed seed: every answer and exception is that of PlainModel. */
public final class RandomRunsTest {
    private static final int[] ODD = {
        -1, -2, 0, 1, 16, 17, 24, 4096, 4097, 65535, 65536, 65537, Integer.MIN_VALUE, Integer.MAX_VALUE,
    };

    private final Random random;
    private final PagedBytes program = new PagedBytes();
    private final PlainModel model = new PlainModel();

    private RandomRunsTest(long seed) {
        random = new Random(seed);
    }

    private interface Answer {
        long get();
    }

    public static void main(String[] args) {
        for (int seed = 0; seed < 300; seed++) {
            RandomRunsTest run = new RandomRunsTest(seed);
            for (int call = 0; call < 512; call++) {
                run.call("run " + seed + ", call " + call + ": ", call);
            }
        }
        Check.end();
    }

    private void call(String where, int number) {
        int kind = number < 4 ? 0 : random.nextInt(40);
        if (kind < 2) {
            make(where);
        } else if (kind < 5) {
            sizes(where, kind);
        } else if (kind < 17) {
            store(where);
        } else if (kind < 27) {
            load(where);
        } else if (kind < 35) {
            copy(where);
        } else {
            sum(where);
        }
    }

    private void make(String where) {
        int least = number(random.nextInt(5));
        int most = number(random.nextInt(3) == 0 ? PagedBytes.NONE : least + random.nextInt(5));
        same(where + "make " + least + " " + most, () -> program.make(least, most), () -> model.make(least, most));
    }

    private void sizes(String where, int kind) {
        int m = memory();
        int n = number(random.nextInt(4));
        int most = number(random.nextInt(10) - 1);
        if (kind == 2) {
            same(where + "pages " + m, () -> program.pages(m), () -> model.pages(m));
        } else if (kind == 3) {
            same(where + "grow " + m + " " + n, () -> program.grow(m, n), () -> model.grow(m, n));
        } else {
            same(where + "fits " + m + " " + n + " " + most,
                    () -> program.fits(m, n, most) ? 1 : 0, () -> model.fits(m, n, most) ? 1 : 0);
        }
    }

    private void store(String where) {
        int m = memory();
        int operation = number(0x36 + random.nextInt(9));
        int address = number(place());
        int offset = number(random.nextInt(9));
        long value = random.nextLong();
        same(where + "store " + m + " " + operation + " " + address + " " + offset + " " + value, () -> {
            program.store(m, operation, address, offset, value);
            return 0;
        }, () -> {
            model.store(m, operation, address, offset, value);
            return 0;
        });
    }

    private void load(String where) {
        int m = memory();
        int operation = number(0x28 + random.nextInt(14));
        int address = number(place());
        int offset = number(random.nextInt(9));
        same(where + "load " + m + " " + operation + " " + address + " " + offset,
                () -> program.load(m, operation, address, offset), () -> model.load(m, operation, address, offset));
    }

    private void copy(String where) {
        int m = memory();
        int other = random.nextBoolean() ? m : memory();
        int from = number(place());
        int to = number(random.nextBoolean() ? from + random.nextInt(41) - 20 : place());
        int n = number(random.nextInt(random.nextBoolean() ? 64 : 4097));
        same(where + "copy " + m + " " + from + " " + other + " " + to + " " + n, () -> {
            program.copy(m, from, other, to, n);
            return 0;
        }, () -> {
            model.copy(m, from, other, to, n);
            return 0;
        });
    }

    private void sum(String where) {
        int m = memory();
        int from = number(place());
        int n = number(random.nextInt(random.nextBoolean() ? 64 : 65537));
        same(where + "sum " + m + " " + from + " " + n, () -> program.sum(m, from, n), () -> model.sum(m, from, n));
    }

    private int memory() {
        return number(random.nextInt(5));
    }

    /** Near a border of pages or of the rows within them, so that calls meet and go over borders. */
    private int place() {
        int border = random.nextInt(3) == 0 ? random.nextInt(4) * 65536 : random.nextInt(6) * 1024;
        return border + random.nextInt(41) - 20;
    }

    private int number(int ordinary) {
        return random.nextInt(40) == 0 ? ODD[random.nextInt(ODD.length)] : ordinary;
    }

    private static void same(String what, Answer program, Answer model) {
        long[] due = {0};
        long[] got = {0};
        Class<?> thrown = Check.thrownBy(() -> due[0] = model.get());
        Check.throwing(what, thrown, () -> got[0] = program.get());
        Check.equal(what, got[0], due[0]);
    }
}
