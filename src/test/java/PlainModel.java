import java.util.ArrayList;
import java.util.Arrays;
import java.util.List;

/** The document once more, as plainly as it can be said, for RandomRunsTest to compare with. */
final class PlainModel {
    private static final String LOADS =
            "28 I 4 u, 29 L 8 u, 2a I 4 u, 2b L 8 u, 2c I 1 s, 2d I 1 u, 2e I 2 s, 2f I 2 u, "
            + "30 L 1 s, 31 L 1 u, 32 L 2 s, 33 L 2 u, 34 L 4 s, 35 L 4 u";
    private static final String STORES =
            "36 I 4, 37 L 8, 38 I 4, 39 L 8, 3a I 1, 3b I 2, 3c L 1, 3d L 2, 3e L 4";

    private final List<byte[]> memories = new ArrayList<>();
    private final List<Integer> mosts = new ArrayList<>();

    int make(int least, int most) {
        if (least < 0 || least > 65536 || most != -1 && (most < least || most > 65536)) {
            throw new IllegalArgumentException();
        }
        if (memories.size() == 24) {
            throw new IllegalStateException();
        }
        if (allPages() + least > 16) {
            throw new UnsupportedOperationException();
        }
        memories.add(new byte[least * 65536]);
        mosts.add(most);
        return memories.size() - 1;
    }

    int pages(int m) {
        return memory(m).length / 65536;
    }

    int grow(int m, int n) {
        int had = pages(m);
        long more = Integer.toUnsignedLong(n);
        long most = mosts.get(m) == -1 ? 65536 : mosts.get(m);
        if (had + more > most || allPages() + more > 16) {
            return -1;
        }
        memories.set(m, Arrays.copyOf(memory(m), (had + n) * 65536));
        return had;
    }

    boolean fits(int m, int least, int most) {
        return pages(m) >= least && (most == -1 || mosts.get(m) != -1 && mosts.get(m) <= most);
    }

    long load(int m, int operation, int address, int offset) {
        byte[] memory = memory(m);
        String[] kind = kind(LOADS, operation);
        int bytes = Integer.parseInt(kind[2]);
        int place = place(memory, address, offset, bytes);
        long number = kind[3].equals("s") && memory[place + bytes - 1] < 0 ? -1 : 0;
        for (int i = bytes - 1; i >= 0; i--) {
            number = number << 8 | memory[place + i] & 0xff;
        }
        return kind[1].equals("I") ? number & 0xffffffffL : number;
    }

    void store(int m, int operation, int address, int offset, long value) {
        byte[] memory = memory(m);
        int bytes = Integer.parseInt(kind(STORES, operation)[2]);
        int place = place(memory, address, offset, bytes);
        for (int i = 0; i < bytes; i++) {
            memory[place + i] = (byte) (value >> 8 * i);
        }
    }

    void copy(int m, int from, int other, int to, int n) {
        byte[] source = memory(m);
        byte[] target = memory(other);
        count(n, 4096);
        if (n > 0) {
            there(source, from, n);
            there(target, to, n);
            System.arraycopy(source, from, target, to, n);
        }
    }

    int sum(int m, int from, int n) {
        byte[] memory = memory(m);
        count(n, 65536);
        if (n > 0) {
            there(memory, from, n);
        }
        long sum = 0;
        for (int i = 0; i < n; i++) {
            sum += (long) (memory[from + i] & 0xff) * (n - i);
        }
        return (int) sum;
    }

    private int allPages() {
        int all = 0;
        for (byte[] memory : memories) {
            all += memory.length / 65536;
        }
        return all;
    }

    private byte[] memory(int m) {
        if (m < 0 || m >= memories.size()) {
            throw new IllegalArgumentException();
        }
        return memories.get(m);
    }

    private static String[] kind(String kinds, int operation) {
        for (String kind : kinds.split(", ")) {
            String[] words = kind.split(" ");
            if (Integer.parseInt(words[0], 16) == operation) {
                return words;
            }
        }
        throw new IllegalArgumentException();
    }

    private static int place(byte[] memory, int address, int offset, int bytes) {
        long place = Integer.toUnsignedLong(address) + Integer.toUnsignedLong(offset);
        there(memory, place, bytes);
        return (int) place;
    }

    private static void count(int n, int limit) {
        if (n < 0 || n > limit) {
            throw new IllegalArgumentException();
        }
    }

    private static void there(byte[] memory, long place, int n) {
        if (place < 0 || place + n > memory.length) {
            throw new IndexOutOfBoundsException();
        }
    }
}
