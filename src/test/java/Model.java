import java.io.ByteArrayOutputStream;
import java.math.BigInteger;
import java.util.ArrayList;
import java.util.Arrays;
import java.util.List;
import java.util.NoSuchElementException;
import java.util.TreeMap;
import java.util.zip.CRC32;

/** The document once more, as plainly as the library allows and without regard to cost. */
final class Model {
    private static final BigInteger MOST_LONG = BigInteger.ONE.shiftLeft(64).subtract(BigInteger.ONE);
    private static final BigInteger MOST_INT = BigInteger.ONE.shiftLeft(32).subtract(BigInteger.ONE);

    private record Entry(BigInteger key, BigInteger value) { }

    private record Told(BigInteger length, BigInteger firstKey) { }

    private final TreeMap<Integer, Long> waiting = new TreeMap<>();
    private byte[] table = tableOf(new TreeMap<>());
    private boolean isOpen;

    int add(int key, long value) {
        if (waiting.size() == 300) {
            throw new IllegalStateException();
        }
        if (!waiting.isEmpty() && waiting.lastKey() >= key) {
            throw new IllegalArgumentException();
        }
        waiting.put(key, value);
        return waiting.size();
    }

    int write() {
        table = tableOf(waiting);
        waiting.clear();
        isOpen = false;
        return table.length;
    }

    int at(int i) {
        if (i < 0 || i >= table.length) {
            throw new IndexOutOfBoundsException();
        }
        return Byte.toUnsignedInt(table[i]);
    }

    int damage(int i, int v) {
        int was = at(i);
        table[i] = (byte) v;
        isOpen = false;
        return was;
    }

    void cut(int n) {
        if (n < 0 || n > table.length) {
            throw new IllegalArgumentException();
        }
        table = Arrays.copyOf(table, n);
        isOpen = false;
    }

    int open() {
        isOpen = false;
        int blocks = told().size();
        isOpen = true;
        return blocks;
    }

    long get(int key) {
        requireOpen();
        List<Told> told = told();
        int found = -1;
        for (int b = 0; b < told.size(); b++) {
            if (told.get(b).firstKey().compareTo(BigInteger.valueOf(key)) <= 0) {
                found = b;
            }
        }
        if (found < 0) {
            throw new NoSuchElementException();
        }
        return block(found).stream().filter(e -> e.key().intValue() == key).findFirst()
                .orElseThrow(NoSuchElementException::new).value().longValueExact();
    }

    int entries(int b) {
        requireOpen();
        if (b < 0 || b >= told().size()) {
            throw new IndexOutOfBoundsException();
        }
        return block(b).size();
    }

    int key(int b, int i) {
        int count = entries(b);
        if (i < 0 || i >= count) {
            throw new IndexOutOfBoundsException();
        }
        return block(b).get(i).key().intValue();
    }

    int size() {
        return table.length;
    }

    private void requireOpen() {
        if (!isOpen) {
            throw new IllegalStateException();
        }
    }

    private List<Told> told() {
        require(table.length >= 8);
        byte[] foot = Arrays.copyOfRange(table, table.length - 4, table.length);
        BigInteger length = new BigInteger(1, foot);
        BigInteger start = BigInteger.valueOf(table.length - 8).subtract(length);
        require(start.signum() >= 0);
        List<BigInteger> numbers = numbers(start.intValueExact(), table.length - 4, MOST_INT);
        require(numbers.size() % 2 == 1);
        require(numbers.get(0).equals(BigInteger.valueOf(numbers.size() / 2)));
        List<Told> all = new ArrayList<>();
        BigInteger bytes = BigInteger.ZERO;
        for (int i = 1; i < numbers.size(); i += 2) {
            all.add(new Told(numbers.get(i), unfold(numbers.get(i + 1))));
            bytes = bytes.add(numbers.get(i));
        }
        require(bytes.equals(start));
        return all;
    }

    private List<Entry> block(int b) {
        List<Told> told = told();
        int start = told.subList(0, b).stream().mapToInt(t -> t.length().intValueExact()).sum();
        int end = start + told.get(b).length().intValueExact();
        require(end - start >= 4);
        List<BigInteger> numbers = numbers(start, end, MOST_LONG);
        require(numbers.size() % 2 == 0);
        List<Entry> all = new ArrayList<>();
        BigInteger key = BigInteger.ZERO;
        for (int i = 0; i < numbers.size(); i += 2) {
            BigInteger number = numbers.get(i);
            key = i == 0 ? unfold(number) : key.add(number).add(BigInteger.ONE);
            all.add(new Entry(key, unfold(numbers.get(i + 1))));
        }
        return all;
    }

    /** The NUMBERS that fill these bytes, whose last four must be the SUM of the others. */
    private List<BigInteger> numbers(int start, int end, BigInteger most) {
        byte[] body = Arrays.copyOfRange(table, start, end - 4);
        require(Arrays.equals(sum(body), Arrays.copyOfRange(table, end - 4, end)));
        List<BigInteger> all = new ArrayList<>();
        int first = 0;
        for (int i = 0; i < body.length; i++) {
            if (body[i] >= 0) {
                BigInteger number = BigInteger.ZERO;
                for (int j = i; j >= first; j--) {
                    number = number.shiftLeft(7).add(BigInteger.valueOf(body[j] & 127));
                }
                require(i - first < 10 && number.compareTo(most) <= 0);
                all.add(number);
                first = i + 1;
            }
        }
        require(first == body.length);
        return all;
    }

    private static void require(boolean isRight) {
        if (!isRight) {
            throw new ArithmeticException();
        }
    }

    private static BigInteger unfold(BigInteger number) {
        BigInteger half = number.shiftRight(1);
        return number.testBit(0) ? half.not() : half;
    }

    private static byte[] tableOf(TreeMap<Integer, Long> entries) {
        ByteArrayOutputStream all = new ByteArrayOutputStream();
        ByteArrayOutputStream index = new ByteArrayOutputStream();
        List<Integer> keys = new ArrayList<>(entries.keySet());
        putNumber(index, BigInteger.valueOf((keys.size() + 7) / 8));
        for (int first = 0; first < keys.size(); first += 8) {
            ByteArrayOutputStream block = new ByteArrayOutputStream();
            for (int i = first; i < Math.min(first + 8, keys.size()); i++) {
                BigInteger key = BigInteger.valueOf(keys.get(i));
                putNumber(block, i == first ? fold(key)
                        : key.subtract(BigInteger.valueOf(keys.get(i - 1))).subtract(BigInteger.ONE));
                putNumber(block, fold(BigInteger.valueOf(entries.get(keys.get(i)))));
            }
            block.writeBytes(sum(block.toByteArray()));
            all.writeBytes(block.toByteArray());
            putNumber(index, BigInteger.valueOf(block.size()));
            putNumber(index, fold(BigInteger.valueOf(keys.get(first))));
        }
        all.writeBytes(index.toByteArray());
        all.writeBytes(sum(index.toByteArray()));
        int length = index.size();
        all.writeBytes(new byte[] {(byte) (length >> 24), (byte) (length >> 16),
            (byte) (length >> 8), (byte) length});
        return all.toByteArray();
    }

    private static BigInteger fold(BigInteger v) {
        BigInteger twice = v.shiftLeft(1);
        return v.signum() < 0 ? twice.not() : twice;
    }

    private static void putNumber(ByteArrayOutputStream out, BigInteger number) {
        BigInteger rest = number;
        for (; rest.bitLength() > 7; rest = rest.shiftRight(7)) {
            out.write(rest.intValue() & 127 | 128);
        }
        out.write(rest.intValue());
    }

    private static byte[] sum(byte[] bytes) {
        CRC32 crc = new CRC32();
        crc.update(bytes);
        long sum = crc.getValue();
        return new byte[] {(byte) sum, (byte) (sum >> 8), (byte) (sum >> 16), (byte) (sum >> 24)};
    }
}
