/** The document's loads and stores: their numbers, and over how many bytes each goes. */
final class Kinds {
    /** Number, bytes. */
    static final int[][] LOADS = {
        {0x28, 4}, {0x29, 8}, {0x2a, 4}, {0x2b, 8}, {0x2c, 1}, {0x2d, 1}, {0x2e, 2}, {0x2f, 2},
        {0x30, 1}, {0x31, 1}, {0x32, 2}, {0x33, 2}, {0x34, 4}, {0x35, 4},
    };
    /** Number, bytes. */
    static final int[][] STORES = {
        {0x36, 4}, {0x37, 8}, {0x38, 4}, {0x39, 8}, {0x3a, 1}, {0x3b, 2}, {0x3c, 1}, {0x3d, 2}, {0x3e, 4},
    };

    static final int LOAD_8_BYTES = 0x29;
    static final int LOAD_BYTE = 0x2d;
    static final int STORE_8_BYTES = 0x37;
    static final int STORE_BYTE = 0x3a;

    private Kinds() {
    }

    static String name(int operation) {
        return Integer.toHexString(operation);
    }
}
