import java.io.ByteArrayOutputStream;
import java.util.zip.CRC32;

/** Builds tables by hand, right ones and wrong ones, and puts them into objects. */
final class Bytes {
    private final ByteArrayOutputStream out = new ByteArrayOutputStream();

    static Bytes of(int... bytes) {
        return new Bytes().raw(bytes);
    }

    /** The NUMBERS as the document writes them. */
    static Bytes numbers(long... numbers) {
        Bytes made = new Bytes();
        for (long number : numbers) {
            made.number(number);
        }
        return made;
    }

    /** A table of these BLOCKS (with their SUMS) and this INDEX (without its SUM). */
    static byte[] table(Bytes index, Bytes... blocks) {
        Bytes made = new Bytes();
        for (Bytes block : blocks) {
            made.bytes(block);
        }
        int length = index.length();
        made.bytes(index.copy().summed());
        return made.raw(length >>> 24, length >>> 16, length >>> 8, length).array();
    }

    /** A table whose INDEX tells one BLOCK, as long as it is, with this first KEY. */
    static byte[] oneBlock(int firstKey, Bytes block) {
        return table(numbers(1, block.length(), fold(firstKey)), block);
    }

    static long fold(long v) {
        return (v << 1) ^ (v >> 63);
    }

    /** An object whose table these bytes are: some 1.1 calls a byte. */
    static SortedRun load(byte[] bytes) {
        SortedRun run = new SortedRun();
        if (run.size() < bytes.length) {
            for (int j = 0; j <= bytes.length / 13; j++) {
                run.add(j << 20, Long.MIN_VALUE);
            }
            run.write();
        }
        for (int i = 0; i < bytes.length; i++) {
            run.damage(i, bytes[i]);
        }
        run.cut(bytes.length);
        return run;
    }

    /** The same for a long table that is mostly of zeroes: only its other bytes are damaged. */
    static SortedRun loadOverZeroes(byte[] bytes) {
        SortedRun run = new SortedRun();
        Model model = new Model();
        for (int key = 0; key < 280; key++) {
            run.add(key, 0);
            model.add(key, 0);
        }
        run.write();
        model.write();
        for (int i = 0; i < bytes.length; i++) {
            if (model.at(i) != (bytes[i] & 255)) {
                run.damage(i, bytes[i]);
            }
        }
        run.cut(bytes.length);
        return run;
    }

    static SortedRun opened(byte[] bytes) {
        SortedRun run = load(bytes);
        run.open();
        return run;
    }

    Bytes raw(int... bytes) {
        for (int b : bytes) {
            out.write(b);
        }
        return this;
    }

    Bytes bytes(Bytes more) {
        out.writeBytes(more.array());
        return this;
    }

    Bytes number(long number) {
        long rest = number;
        while (Long.compareUnsigned(rest, 127) > 0) {
            out.write((int) (rest & 127) | 128);
            rest >>>= 7;
        }
        out.write((int) rest);
        return this;
    }

    /** The NUMBER in so many bytes, be they more than it needs. */
    Bytes number(long number, int length) {
        long rest = number;
        for (int i = 1; i < length; i++) {
            out.write((int) (rest & 127) | 128);
            rest >>>= 7;
        }
        out.write((int) (rest & 127));
        return this;
    }

    /** A NUMBER of ten bytes: nine of these, with 128 more, and this last one. */
    Bytes tenBytes(int nine, int last) {
        for (int i = 0; i < 9; i++) {
            out.write(nine | 128);
        }
        out.write(last);
        return this;
    }

    /** The SUM of all bytes so far. */
    Bytes summed() {
        CRC32 crc = new CRC32();
        crc.update(array());
        long sum = crc.getValue();
        return raw((int) sum, (int) (sum >>> 8), (int) (sum >>> 16), (int) (sum >>> 24));
    }

    Bytes copy() {
        return new Bytes().bytes(this);
    }

    /** With this bit of byte i the other way round. */
    Bytes flipped(int i, int bit) {
        byte[] all = array();
        all[i] ^= (byte) (1 << bit);
        Bytes made = new Bytes();
        made.out.writeBytes(all);
        return made;
    }

    int length() {
        return out.size();
    }

    byte[] array() {
        return out.toByteArray();
    }
}
