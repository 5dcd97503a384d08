import java.util.NoSuchElementException;

/**
 * Tables of sorted keys as bytes: blocks with sums, an index, a foot; written once, read as far as
 * their sums are right. The words in capitals are those of the document's terms.
 */
public final class SortedRun {
    private static final int MOST_WAITING = 300;
    private static final int BLOCK_ENTRIES = 8;
    private static final int MOST_BLOCKS = (MOST_WAITING + BLOCK_ENTRIES - 1) / BLOCK_ENTRIES;
    private static final int SUM_BYTES = 4;
    private static final int FOOT_BYTES = 4;
    private static final int MOST_NUMBER_BYTES = 10;
    private static final long MOST_INDEX_NUMBER = 0xFFFFFFFFL;

    // A KEY, as a FOLD or as a distance, is below 2^32 and so has five bytes at most; a full BLOCK
    // has 124 bytes at most, so that its length and the count of BLOCKS are NUMBERS of one byte.
    private static final int MOST_KEY_BYTES = 5;
    private static final int MOST_ENTRY_BYTES = MOST_KEY_BYTES + MOST_NUMBER_BYTES;
    private static final int MOST_INDEX_BYTES = 1 + MOST_BLOCKS * (1 + MOST_KEY_BYTES);
    private static final int MOST_BYTES = MOST_WAITING * MOST_ENTRY_BYTES + MOST_BLOCKS * SUM_BYTES
            + MOST_INDEX_BYTES + SUM_BYTES + FOOT_BYTES;

    // A damaged INDEX can tell of more BLOCKS than were ever written: each takes it two bytes. So
    // does each ENTRY of a damaged BLOCK.
    private static final int MOST_BLOCKS_TOLD = MOST_BYTES / 2;
    private static final int MOST_ENTRIES_READ = MOST_BYTES / 2;

    private static final int NONE = -1;

    private final int[] waitingKeys = new int[MOST_WAITING];
    private final long[] waitingValues = new long[MOST_WAITING];
    private final int[] blockLengths = new int[MOST_BLOCKS];
    private final Table table = new Table();
    private final Index index = new Index();
    private final Entry entry = new Entry();
    private int waiting;
    private boolean isOpen;

    public SortedRun() {
        writeTable();
    }

    public int add(int key, long value) throws IllegalArgumentException, IllegalStateException {
        if (waiting >= MOST_WAITING) {
            throw new IllegalStateException("300 entries wait already");
        }
        if (waiting > 0 && key <= waitingKeys[waiting - 1]) {
            throw new IllegalArgumentException("the key is not above the one before");
        }
        waitingKeys[waiting] = key;
        waitingValues[waiting] = value;
        waiting++;
        return waiting;
    }

    public int write() {
        writeTable();
        return table.length;
    }

    public int at(int i) throws IndexOutOfBoundsException {
        requireByte(i);
        return table.byteAt(i);
    }

    public int damage(int i, int v) throws IndexOutOfBoundsException {
        requireByte(i);
        int before = table.byteAt(i);
        table.bytes[i] = (byte) v;
        isOpen = false;
        return before;
    }

    public void cut(int n) throws IllegalArgumentException {
        if (n < 0 || n > table.length) {
            throw new IllegalArgumentException("the table has not so many bytes");
        }
        table.length = n;
        isOpen = false;
    }

    public int open() throws ArithmeticException {
        isOpen = index.readFrom(table);
        if (!isOpen) {
            throw new ArithmeticException("the foot or the index is not right");
        }
        return index.blocks;
    }

    public long get(int key)
            throws IllegalStateException, ArithmeticException, NoSuchElementException {
        requireOpen();
        int b = index.lastBlockNotAbove(key);
        if (b == NONE) {
            throw new NoSuchElementException("every block begins above the key");
        }
        int count = countRightEntries(b);
        startReading(b);
        for (int i = 0; i < count; i++) {
            entry.readNext(table);
            if (entry.key == key) {
                return entry.value;
            }
        }
        throw new NoSuchElementException("the block has not this key");
    }

    public int entries(int b)
            throws IllegalStateException, IndexOutOfBoundsException, ArithmeticException {
        requireOpen();
        requireBlock(b);
        return countRightEntries(b);
    }

    public int key(int b, int i)
            throws IllegalStateException, IndexOutOfBoundsException, ArithmeticException {
        requireOpen();
        requireBlock(b);
        int count = countRightEntries(b);
        if (i < 0 || i >= count) {
            throw new IndexOutOfBoundsException("the block has no such entry");
        }
        startReading(b);
        for (int j = 0; j <= i; j++) {
            entry.readNext(table);
        }
        return entry.key;
    }

    public int size() {
        return table.length;
    }

    private void requireByte(int i) {
        if (i < 0 || i >= table.length) {
            throw new IndexOutOfBoundsException("the table has no such byte");
        }
    }

    private void requireOpen() {
        if (!isOpen) {
            throw new IllegalStateException("the table is closed");
        }
    }

    private void requireBlock(int b) {
        if (b < 0 || b >= index.blocks) {
            throw new IndexOutOfBoundsException("the table has no such block");
        }
    }

    private int countRightEntries(int b) {
        int count = hasRightSum(b) ? countEntries(b) : NONE;
        if (count == NONE) {
            throw new ArithmeticException("the block is not right");
        }
        return count;
    }

    private boolean hasRightSum(int b) {
        int from = index.startOf(b);
        int to = index.bodyEndOf(b);
        return from <= to && table.hasSum(from, to);
    }

    /** Goes to the BLOCK's end, as a NUMBER that is not right spoils the ENTRIES before it too. */
    private int countEntries(int b) {
        startReading(b);
        int count = 0;
        while (count < MOST_ENTRIES_READ && !table.isReadToEnd()) {
            entry.readNext(table);
            count++;
        }
        return table.areNumbersRight ? count : NONE;
    }

    private void startReading(int b) {
        table.startReading(index.startOf(b), index.bodyEndOf(b));
        entry.isFirst = true;
    }

    private void writeTable() {
        isOpen = false;
        table.length = 0;
        int blocks = 0;
        for (int first = 0; first < waiting; first += BLOCK_ENTRIES) {
            blockLengths[blocks] = writeBlock(first);
            blocks++;
        }
        writeIndex(blocks);
        waiting = 0;
    }

    private int writeBlock(int first) {
        int start = table.length;
        int end = Math.min(first + BLOCK_ENTRIES, waiting);
        table.appendNumber(fold(waitingKeys[first]));
        table.appendNumber(fold(waitingValues[first]));
        for (int i = first + 1; i < end; i++) {
            table.appendNumber((long) waitingKeys[i] - waitingKeys[i - 1] - 1);
            table.appendNumber(fold(waitingValues[i]));
        }
        table.appendSum(start);
        return table.length - start;
    }

    private void writeIndex(int blocks) {
        int start = table.length;
        table.appendNumber(blocks);
        for (int b = 0; b < blocks; b++) {
            table.appendNumber(blockLengths[b]);
            table.appendNumber(fold(waitingKeys[b * BLOCK_ENTRIES]));
        }
        int length = table.length - start;
        table.appendSum(start);
        table.appendFoot(length);
    }

    private static long fold(long v) {
        return v < 0 ? -2 * v - 1 : 2 * v;
    }

    private static long unfold(long folded) {
        long half = folded >>> 1;
        return (folded & 1) == 0 ? half : -half - 1;
    }

    /**
     * The bytes of THE TABLE, in a row that is long enough for every one that can be written, and a
     * place in them from which NUMBERS are read.
     */
    private static final class Table {
        /** What four bits do to a CRC-32: half a byte a step keeps the row short. */
        private static final int[] SUM_STEPS = {
            0x00000000, 0x1DB71064, 0x3B6E20C8, 0x26D930AC,
            0x76DC4190, 0x6B6B51F4, 0x4DB26158, 0x5005713C,
            0xEDB88320, 0xF00F9344, 0xD6D6A3E8, 0xCB61B38C,
            0x9B64C2B0, 0x86D3D2D4, 0xA00AE278, 0xBDBDF21C
        };

        private final byte[] bytes = new byte[MOST_BYTES];
        private int length;
        private int next;
        private int end;
        private boolean areNumbersRight;

        int byteAt(int i) {
            return bytes[i] & 255;
        }

        void append(int v) {
            bytes[length] = (byte) v;
            length++;
        }

        void appendNumber(long number) {
            long rest = number;
            for (int i = 1; i < MOST_NUMBER_BYTES && (rest >>> 7) != 0; i++) {
                append((int) (rest & 127) + 128);
                rest = rest >>> 7;
            }
            append((int) rest);
        }

        void appendSum(int from) {
            int sum = sumOf(from, length);
            for (int i = 0; i < SUM_BYTES; i++) {
                append(sum >>> (8 * i));
            }
        }

        void appendFoot(int indexLength) {
            for (int i = FOOT_BYTES - 1; i >= 0; i--) {
                append(indexLength >>> (8 * i));
            }
        }

        /** The last four bytes as a number without sign; only for a table that has so many. */
        long foot() {
            long told = 0;
            for (int i = length - FOOT_BYTES; i < length; i++) {
                told = (told << 8) + byteAt(i);
            }
            return told;
        }

        /** Whether the SUM of the bytes before to stands there; only if four bytes do. */
        boolean hasSum(int from, int to) {
            int sum = sumOf(from, to);
            for (int i = 0; i < SUM_BYTES; i++) {
                if (byteAt(to + i) != ((sum >>> (8 * i)) & 255)) {
                    return false;
                }
            }
            return true;
        }

        private int sumOf(int from, int to) {
            int sum = -1;
            for (int i = from; i < to; i++) {
                sum = sum ^ byteAt(i);
                sum = (sum >>> 4) ^ SUM_STEPS[sum & 15];
                sum = (sum >>> 4) ^ SUM_STEPS[sum & 15];
            }
            return ~sum;
        }

        void startReading(int from, int to) {
            next = from;
            end = to;
            areNumbersRight = true;
        }

        boolean isReadToEnd() {
            return next >= end;
        }

        /** The next NUMBER, or 0 if it is not right: that is kept till reading starts anew. */
        long takeNumber() {
            long number = 0;
            for (int i = 0; i < MOST_NUMBER_BYTES && next < end; i++) {
                int part = byteAt(next);
                next++;
                // Nine bytes hold 63 bits: the tenth has room for one more, and is the last.
                if (i == MOST_NUMBER_BYTES - 1 && part > 1) {
                    break;
                }
                number = number + ((long) (part & 127) << (7 * i));
                if (part < 128) {
                    return number;
                }
            }
            areNumbersRight = false;
            return 0;
        }
    }

    /** The ENTRY of a BLOCK that was read last. */
    private static final class Entry {
        private boolean isFirst;
        private int key;
        private long value;

        void readNext(Table table) {
            long number = table.takeNumber();
            key = (int) (isFirst ? unfold(number) : key + number + 1);
            value = unfold(table.takeNumber());
            isFirst = false;
        }
    }

    /** What the INDEX told when THE TABLE was opened. */
    private static final class Index {
        private final int[] ends = new int[MOST_BLOCKS_TOLD];
        private final int[] firstKeys = new int[MOST_BLOCKS_TOLD];
        private int blocks;

        int startOf(int b) {
            return b == 0 ? 0 : ends[b - 1];
        }

        /** Where the BLOCK's SUM begins; before the BLOCK itself if that is too short for one. */
        int bodyEndOf(int b) {
            return ends[b] - SUM_BYTES;
        }

        /** Looks at every BLOCK in turn, as the KEYS of a damaged INDEX need not be in order. */
        int lastBlockNotAbove(int key) {
            for (int b = blocks - 1; b >= 0; b--) {
                if (firstKeys[b] <= key) {
                    return b;
                }
            }
            return NONE;
        }

        /** Whether THE FOOT and the INDEX are right. */
        boolean readFrom(Table table) {
            int end = table.length - FOOT_BYTES - SUM_BYTES;
            if (end < 0 || table.foot() > end) {
                return false;
            }
            int start = end - (int) table.foot();
            if (!table.hasSum(start, end)) {
                return false;
            }
            table.startReading(start, end);
            return readBlocks(table, start) && table.areNumbersRight && table.isReadToEnd();
        }

        /** Whether the BLOCKS that are told have just the bytes before the INDEX. */
        private boolean readBlocks(Table table, int indexStart) {
            long told = table.takeNumber();
            if (told < 0 || told > MOST_BLOCKS_TOLD) {
                return false;
            }
            blocks = (int) told;
            long end = 0;
            for (int b = 0; b < blocks; b++) {
                long length = table.takeNumber();
                long foldedKey = table.takeNumber();
                if (!fitsIndex(length) || !fitsIndex(foldedKey)) {
                    return false;
                }
                end += length;
                ends[b] = (int) end;
                firstKeys[b] = (int) unfold(foldedKey);
            }
            return end == indexStart;
        }

        private boolean fitsIndex(long number) {
            return number >= 0 && number <= MOST_INDEX_NUMBER;
        }
    }
}
