/** Memories of pages for programs of a typed machine; ../shared/DOC.md says what each call promises. */
public final class PagedBytes {
    public static final int NONE = -1;

    private static final int PAGE_BYTES = 65536;
    private static final int PAGES_OF_ONE = 65536;
    private static final int PAGES_OF_ALL = 16;
    private static final int MEMORIES = 24;
    private static final int COPIED_BYTES = 4096;
    private static final int SUMMED_BYTES = 65536;

    // Bytes are kept in rows that are made when first written, for most pages stay nearly empty.
    private static final int ROW_BYTES = 1024;
    private static final int ROWS_OF_PAGE = PAGE_BYTES / ROW_BYTES;

    private static final long LOWEST_32 = 0xffffffffL;

    private static final int FIRST_LOAD = 0x28;
    private static final int[] LOAD_BYTES = {4, 8, 4, 8, 1, 1, 2, 2, 1, 1, 2, 2, 4, 4};
    private static final int[] LOAD_SIGNED = {0, 0, 0, 0, 1, 0, 1, 0, 1, 0, 1, 0, 1, 0};
    private static final int[] LOAD_TYPE_BYTES = {4, 8, 4, 8, 4, 4, 4, 4, 8, 8, 8, 8, 8, 8};

    private static final int FIRST_STORE = 0x36;
    private static final int[] STORE_BYTES = {4, 8, 4, 8, 1, 2, 1, 2, 4};

    private final Memory[] memories;
    // copy() goes through this row, so that places that overlap are read before they are written.
    private final byte[] copied;
    private int memoryCount;
    private int pagesInAll;

    public PagedBytes() {
        memories = new Memory[MEMORIES];
        copied = new byte[COPIED_BYTES];
        memoryCount = 0;
        pagesInAll = 0;
    }

    public int make(int least, int most)
            throws IllegalArgumentException, IllegalStateException, UnsupportedOperationException {
        if (least < 0 || least > PAGES_OF_ONE) {
            throw new IllegalArgumentException("least is not 0 .. 65536");
        }
        if (most != NONE && (most < least || most > PAGES_OF_ONE)) {
            throw new IllegalArgumentException("most is below least or above 65536");
        }
        if (memoryCount >= memories.length) {
            throw new IllegalStateException("there are 24 memories");
        }
        if (least > PAGES_OF_ALL - pagesInAll) {
            throw new UnsupportedOperationException("all would have more than 16 pages");
        }
        int number = memoryCount;
        memories[number] = new Memory(least, most);
        memoryCount = number + 1;
        pagesInAll += least;
        return number;
    }

    public int pages(int m) throws IllegalArgumentException {
        return memoryOf(m).pageCount;
    }

    public int grow(int m, int n) throws IllegalArgumentException {
        Memory memory = memoryOf(m);
        long more = withoutSign(n);
        int had = memory.pageCount;
        if (had + more > memory.pageLimit() || pagesInAll + more > PAGES_OF_ALL) {
            return NONE;
        }
        memory.pageCount = had + n;
        pagesInAll += n;
        return had;
    }

    public boolean fits(int m, int least, int most) throws IllegalArgumentException {
        Memory memory = memoryOf(m);
        if (memory.pageCount < least) {
            return false;
        }
        return most == NONE || (memory.most != NONE && memory.most <= most);
    }

    public long load(int m, int operation, int address, int offset)
            throws IllegalArgumentException, IndexOutOfBoundsException {
        Memory memory = memoryOf(m);
        int kind = kindOf(operation, FIRST_LOAD, LOAD_BYTES.length);
        int bytes = LOAD_BYTES[kind];
        int place = placeOf(memory, address, offset, bytes);
        long number = memory.numberAt(place, bytes);
        if (LOAD_SIGNED[kind] == 1) {
            number = withSign(number, bytes);
        }
        return LOAD_TYPE_BYTES[kind] == 4 ? number & LOWEST_32 : number;
    }

    public void store(int m, int operation, int address, int offset, long value)
            throws IllegalArgumentException, IndexOutOfBoundsException {
        Memory memory = memoryOf(m);
        int bytes = STORE_BYTES[kindOf(operation, FIRST_STORE, STORE_BYTES.length)];
        int place = placeOf(memory, address, offset, bytes);
        memory.putNumber(place, bytes, value);
    }

    public void copy(int m, int from, int other, int to, int n)
            throws IllegalArgumentException, IndexOutOfBoundsException {
        Memory source = memoryOf(m);
        Memory target = memoryOf(other);
        checkCount(n, COPIED_BYTES);
        if (n == 0) {
            return;
        }
        checkThere(source, from, n);
        checkThere(target, to, n);
        source.readInto(copied, from, n);
        target.writeFrom(copied, to, n);
    }

    public int sum(int m, int from, int n) throws IllegalArgumentException, IndexOutOfBoundsException {
        Memory memory = memoryOf(m);
        checkCount(n, SUMMED_BYTES);
        if (n == 0) {
            return 0;
        }
        checkThere(memory, from, n);
        return memory.weighedSum(from, n);
    }

    private Memory memoryOf(int m) {
        if (m < 0 || m >= memories.length || memories[m] == null) {
            throw new IllegalArgumentException("there is no such memory");
        }
        return memories[m];
    }

    private static int kindOf(int operation, int first, int kinds) {
        if (operation < first || operation >= first + kinds) {
            throw new IllegalArgumentException("there is no such load or store");
        }
        return operation - first;
    }

    private static int placeOf(Memory memory, int address, int offset, int bytes) {
        long place = withoutSign(address) + withoutSign(offset);
        checkThere(memory, place, bytes);
        return (int) place;
    }

    private static void checkCount(int n, int limit) {
        if (n < 0 || n > limit) {
            throw new IllegalArgumentException("n is below 0 or too great");
        }
    }

    private static void checkThere(Memory memory, long place, int n) {
        if (place < 0 || place + n > memory.size()) {
            throw new IndexOutOfBoundsException("a byte is not in the memory");
        }
    }

    private static long withoutSign(int number) {
        return number & LOWEST_32;
    }

    private static long withSign(long number, int bytes) {
        int above = 8 * (8 - bytes);
        return (number << above) >> above;
    }

    /** A row of bytes that lie side by side in a memory. */
    private static final class Row {
        final byte[] bytes;

        Row() {
            bytes = new byte[ROW_BYTES];
        }

        int weighedPart(int start, int end, int firstWeight) {
            int total = 0;
            int weight = firstWeight;
            for (int i = Math.max(start, 0); i < Math.min(end, bytes.length); i++) {
                total += (bytes[i] & 0xff) * weight;
                weight--;
            }
            return total;
        }
    }

    /** One memory; its callers see to it that the places they name are in it. */
    private static final class Memory {
        final int most;
        int pageCount;
        // A row that is null has never been written: its bytes are 0.
        private final Row[] rows;

        Memory(int least, int most) {
            this.most = most;
            this.pageCount = least;
            int reachable = most == NONE ? PAGES_OF_ALL : Math.min(most, PAGES_OF_ALL);
            rows = new Row[Math.max(reachable, 0) * ROWS_OF_PAGE];
        }

        int pageLimit() {
            return most == NONE ? PAGES_OF_ONE : most;
        }

        long size() {
            return (long) pageCount * PAGE_BYTES;
        }

        long numberAt(int place, int bytes) {
            long number = 0;
            for (int i = 0; i < bytes; i++) {
                number |= (long) byteAt(place + i) << (8 * i);
            }
            return number;
        }

        void putNumber(int place, int bytes, long value) {
            for (int i = 0; i < bytes; i++) {
                putByte(place + i, (byte) (value >>> (8 * i)));
            }
        }

        void readInto(byte[] into, int from, int n) {
            for (int r = from / ROW_BYTES; r <= (from + n - 1) / ROW_BYTES; r++) {
                int start = Math.max(from, r * ROW_BYTES);
                int end = Math.min(from + n, (r + 1) * ROW_BYTES);
                Row row = rowOrNull(r);
                if (row == null) {
                    clear(into, start - from, end - from);
                } else {
                    System.arraycopy(row.bytes, start - r * ROW_BYTES, into, start - from, end - start);
                }
            }
        }

        private static void clear(byte[] bytes, int start, int end) {
            for (int i = Math.max(start, 0); i < Math.min(end, bytes.length); i++) {
                bytes[i] = 0;
            }
        }

        void writeFrom(byte[] source, int to, int n) {
            for (int r = to / ROW_BYTES; r <= (to + n - 1) / ROW_BYTES; r++) {
                int start = Math.max(to, r * ROW_BYTES);
                int end = Math.min(to + n, (r + 1) * ROW_BYTES);
                Row row = rowToWrite(r);
                if (row != null) {
                    System.arraycopy(source, start - to, row.bytes, start - r * ROW_BYTES, end - start);
                }
            }
        }

        int weighedSum(int from, int n) {
            int total = 0;
            for (int r = from / ROW_BYTES; r <= (from + n - 1) / ROW_BYTES; r++) {
                Row row = rowOrNull(r);
                if (row != null) {
                    int start = Math.max(from, r * ROW_BYTES);
                    int end = Math.min(from + n, (r + 1) * ROW_BYTES);
                    total += row.weighedPart(start - r * ROW_BYTES, end - r * ROW_BYTES, from + n - start);
                }
            }
            return total;
        }

        private int byteAt(int place) {
            Row row = rowOrNull(place / ROW_BYTES);
            return row == null || place < 0 ? 0 : row.bytes[place % ROW_BYTES] & 0xff;
        }

        private void putByte(int place, byte value) {
            Row row = rowToWrite(place / ROW_BYTES);
            if (row != null && place >= 0) {
                row.bytes[place % ROW_BYTES] = value;
            }
        }

        private Row rowOrNull(int r) {
            return r < 0 || r >= rows.length ? null : rows[r];
        }

        private Row rowToWrite(int r) {
            if (r < 0 || r >= rows.length) {
                return null;
            }
            if (rows[r] == null) {
                rows[r] = new Row();
            }
            return rows[r];
        }
    }
}
