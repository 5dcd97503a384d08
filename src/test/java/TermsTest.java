import java.util.ArrayList;
import java.util.Arrays;
import java.util.List;

/** "Terms": what ENTRIES, NUMBERS, FOLDS, BLOCKS and SUMS are, and of what THE TABLE is made. */
final class TermsTest {
    private static final Check CHECK = new Check();
    private static final long MOST_INT = 0xFFFFFFFFL;

    public static void main(String[] args) {
        keysAreIntsAndValuesLongs();
        keysAreInOrder();
        atMostThreeHundred();
        numbersBySevenBits();
        numbersOfTenBytes();
        folds();
        foldsBelowZero();
        eightEntriesABlock();
        eachButTheLastEight();
        firstKeysAndDistances();
        valuesBehindKeys();
        sumBehindEntries();
        commonSum();
        fourBytesOfASum();
        partsOfATable();
        foots();
        CHECK.end();
    }

    /** An object with these KEYS, and with their places as VALUES, written. */
    private static SortedRun written(int... keys) {
        SortedRun run = new SortedRun();
        for (int i = 0; i < keys.length; i++) {
            run.add(keys[i], i);
        }
        run.write();
        return run;
    }

    private static SortedRun writtenValue(long value) {
        SortedRun run = new SortedRun();
        run.add(0, value);
        run.write();
        return run;
    }

    private static void keysAreIntsAndValuesLongs() {
        CHECK.sentence("ENTRIES have a KEY (an int) and a VALUE (a long)");
        int[] keys = {Integer.MIN_VALUE, Integer.MIN_VALUE + 1, -1, 0, 1, Integer.MAX_VALUE - 1,
            Integer.MAX_VALUE};
        long[] values = {Long.MAX_VALUE, 1L << 32, 0, Long.MIN_VALUE, -1, (1L << 63) - (1L << 31),
            Integer.MIN_VALUE - 1L};
        SortedRun run = new SortedRun();
        for (int i = 0; i < keys.length; i++) {
            run.add(keys[i], values[i]);
        }
        run.write();
        run.open();
        for (int i = 0; i < keys.length; i++) {
            int at = i;
            CHECK.answers("key " + i, keys[i], () -> run.key(0, at));
            CHECK.answers("get(" + keys[i] + ")", values[i], () -> run.get(keys[at]));
        }
    }

    private static void keysAreInOrder() {
        CHECK.sentence("the KEYS of a table in order");
        SortedRun run = new SortedRun();
        for (int i = 0; i < 40; i++) {
            run.add(-20 + i, i);
        }
        run.write();
        run.open();
        for (int i = 0; i < 40; i++) {
            int at = i;
            CHECK.answers("key " + i + " of all", -20 + i, () -> run.key(at / 8, at % 8));
        }
        run.add(7, 0);
        CHECK.refuses("7 behind 7", IllegalArgumentException.class, () -> run.add(7, 0));
        CHECK.refuses("-8 behind 7", IllegalArgumentException.class, () -> run.add(-8, 0));
    }

    private static void atMostThreeHundred() {
        CHECK.sentence("at most 300");
        SortedRun run = new SortedRun();
        for (int i = 0; i < 300; i++) {
            run.add(2 * i, 1000 + i);
        }
        CHECK.refuses("the 301st", IllegalStateException.class, () -> run.add(1000, 0));
        run.write();
        CHECK.answers("the blocks of 300", 38, run::open);
        CHECK.answers("the 300th", 1299, () -> run.get(598));
        CHECK.refuses("the 301st is not there", IndexOutOfBoundsException.class,
                () -> run.key(37, 4));
    }

    private static void numbersBySevenBits() {
        CHECK.sentence("A NUMBER without sign is written by seven bits, the lowest first,"
                + " each byte but the last with 128 more");
        valueIsWritten("127", -64, 127);
        valueIsWritten("128", 64, 128, 1);
        valueIsWritten("300", 150, 172, 2);
        valueIsWritten("2^14 - 1", -(1L << 13), 255, 127);
        valueIsWritten("2^14", 1L << 13, 128, 128, 1);
        for (int bytes = 1; bytes < 10; bytes++) {
            // The last NUMBER of so many bytes is odd, so a FOLD of one below 0.
            numberHasBytes(bytes, -(1L << (7 * bytes - 1)));
            numberHasBytes(bytes + 1, 1L << (7 * bytes - 1));
        }
        numberHasBytes(10, Long.MAX_VALUE);
        numberHasBytes(10, Long.MIN_VALUE);
        distanceIsWritten(127, 127);
        distanceIsWritten(128, 128, 1);
        distanceIsWritten((1 << 14) - 1, 255, 127);
        distanceIsWritten(1 << 14, 128, 128, 1);
        distanceIsWritten((1 << 21) - 1, 255, 255, 127);
        distanceIsWritten(1 << 21, 128, 128, 128, 1);
        distanceIsWritten((1 << 28) - 1, 255, 255, 255, 127);
        distanceIsWritten(1 << 28, 128, 128, 128, 128, 1);
        distanceIsWritten(1L << 31, 128, 128, 128, 128, 8);
        distanceIsWritten(MOST_INT - 1, 254, 255, 255, 255, 15);
    }

    private static void valueIsWritten(String what, long value, int... due) {
        CHECK.hasBytes(what, writtenValue(value),
                Bytes.oneBlock(0, Bytes.of(0).raw(due).summed()));
    }

    private static void numberHasBytes(int bytes, long value) {
        SortedRun run = writtenValue(value);
        CHECK.answers("bytes of the value " + value, bytes, () -> run.size() - 1 - 4 - 3 - 4 - 4);
        for (int i = 1; i <= bytes; i++) {
            int at = i;
            CHECK.holds("byte " + i + " of the value " + value + " is the last, or has 128 more",
                    run.at(at) >= 128 == at < bytes);
        }
        run.open();
        CHECK.answers("the value", value, () -> run.get(0));
    }

    private static void distanceIsWritten(long distance, int... due) {
        int from = Integer.MIN_VALUE;
        SortedRun run = written(from, (int) (from + distance + 1));
        CHECK.hasBytes("distance " + distance, run, Bytes.oneBlock(from,
                Bytes.numbers(MOST_INT, 0).raw(due).number(2).summed()));
        run.open();
        CHECK.answers("the key so far off", from + distance + 1, () -> run.key(0, 1));
    }

    private static void numbersOfTenBytes() {
        CHECK.sentence("it has at most ten bytes");
        for (int length = 1; length <= 10; length++) {
            String what = " in " + length + " bytes";
            SortedRun none = Bytes.load(Bytes.table(new Bytes().number(0, length)));
            CHECK.answers("a count" + what, 0, none::open);
            readsFive("a length" + what, Bytes.table(
                    Bytes.numbers(1).number(8, length).number(10), Blocks.GOOD));
            readsFive("a first key of the index" + what, Bytes.table(
                    Bytes.numbers(1, 8).number(10, length), Blocks.GOOD));
            readsFive("a first key" + what, Bytes.oneBlock(5,
                    new Bytes().number(10, length).number(2).number(0).number(4).summed()));
            readsFive("a value" + what, Bytes.oneBlock(5,
                    Bytes.numbers(10).number(2, length).number(0).number(4).summed()));
            readsFive("a distance" + what, Bytes.oneBlock(5,
                    Bytes.numbers(10, 2).number(0, length).number(4).summed()));
        }
        for (int length : new int[] {11, 12, 20}) {
            String what = " in " + length + " bytes";
            opensNot("a count" + what, Bytes.table(new Bytes().number(0, length)));
            opensNot("a length" + what, Bytes.table(
                    Bytes.numbers(1).number(8, length).number(10), Blocks.GOOD));
            opensNot("a first key of the index" + what, Bytes.table(
                    Bytes.numbers(1, 8).number(10, length), Blocks.GOOD));
        }
        Blocks.ofNumbersTooLong().forEach((what, block) -> {
            SortedRun run = Bytes.opened(Bytes.oneBlock(5, block));
            CHECK.refuses(what, ArithmeticException.class, () -> run.entries(0));
        });
    }

    private static void readsFive(String what, byte[] table) {
        SortedRun run = Bytes.load(table);
        CHECK.answers(what + ": open", 1, run::open);
        CHECK.answers(what + ": entries", 2, () -> run.entries(0));
        CHECK.answers(what + ": get(5)", 1, () -> run.get(5));
        CHECK.answers(what + ": get(6)", 2, () -> run.get(6));
        CHECK.answers(what + ": the second key", 6, () -> run.key(0, 1));
    }

    private static void opensNot(String what, byte[] table) {
        SortedRun run = Bytes.load(table);
        CHECK.refuses(what, ArithmeticException.class, run::open);
    }

    private static void folds() {
        CHECK.sentence("A FOLD of a long v is 2 v");
        valueIsWritten("0", 0, 0);
        valueIsWritten("1", 1, 2);
        valueIsWritten("63", 63, 126);
        valueIsWritten("2^62 is 2^63 then", 1L << 62,
                128, 128, 128, 128, 128, 128, 128, 128, 128, 1);
        valueIsWritten("the highest is 2^64 - 2", Long.MAX_VALUE,
                254, 255, 255, 255, 255, 255, 255, 255, 255, 1);
        keyIsWritten(0, 0);
        keyIsWritten(1, 2);
        keyIsWritten(1 << 30, 128, 128, 128, 128, 8);
        keyIsWritten(Integer.MAX_VALUE, 254, 255, 255, 255, 15);
    }

    private static void foldsBelowZero() {
        CHECK.sentence("or -2 v - 1 if it is below 0 (mod 2^64)");
        valueIsWritten("-1", -1, 1);
        valueIsWritten("-2", -2, 3);
        valueIsWritten("-64", -64, 127);
        valueIsWritten("-65", -65, 129, 1);
        valueIsWritten("the lowest is 2^64 - 1", Long.MIN_VALUE,
                255, 255, 255, 255, 255, 255, 255, 255, 255, 1);
        keyIsWritten(-1, 1);
        keyIsWritten(-64, 127);
        keyIsWritten(-65, 129, 1);
        keyIsWritten(Integer.MIN_VALUE, 255, 255, 255, 255, 15);
    }

    /** In its BLOCK and in the INDEX. */
    private static void keyIsWritten(int key, int... due) {
        SortedRun run = written(key);
        Bytes block = Bytes.of(due).number(0).summed();
        Bytes index = Bytes.numbers(1, block.length()).raw(due);
        CHECK.hasBytes("key " + key, run, Bytes.table(index, block));
        run.open();
        CHECK.answers("key " + key + " again", key, () -> run.key(0, 0));
        CHECK.answers("its value", 0, () -> run.get(key));
    }

    private static void eightEntriesABlock() {
        CHECK.sentence("A BLOCK has up to 8 ENTRIES");
        for (int count = 0; count <= 33; count++) {
            SortedRun run = consecutive(count);
            CHECK.answers("blocks of " + count, (count + 7) / 8, run::open);
            if (count > 0) {
                int last = (count - 1) / 8;
                CHECK.answers("the last of " + count, count - 8 * last, () -> run.entries(last));
            }
        }
    }

    private static void eachButTheLastEight() {
        CHECK.sentence("each but the last BLOCK 8");
        for (int count : new int[] {9, 15, 16, 17, 24, 25, 64, 65, 296, 297, 299, 300}) {
            SortedRun run = consecutive(count);
            run.open();
            for (int b = 0; b < (count - 1) / 8; b++) {
                int block = b;
                CHECK.answers("entries of block " + b + ", of " + count, 8,
                        () -> run.entries(block));
                CHECK.answers("its first", 8 * b, () -> run.key(block, 0));
                CHECK.answers("its last", 8 * b + 7, () -> run.key(block, 7));
            }
        }
    }

    private static SortedRun consecutive(int count) {
        SortedRun run = new SortedRun();
        for (int i = 0; i < count; i++) {
            run.add(i, i);
        }
        run.write();
        return run;
    }

    private static void firstKeysAndDistances() {
        CHECK.sentence("of the first the FOLD of its KEY, of others how much their KEY is above"
                + " the one before, less 1");
        CHECK.hasBytes("one above, two above, far above", written(-3, -2, 0, 200),
                Bytes.oneBlock(-3, Bytes.of(5, 0, 0, 2, 1, 4, 199, 1, 6).summed()));
        CHECK.hasBytes("as far as can be", written(Integer.MIN_VALUE, Integer.MAX_VALUE),
                Bytes.oneBlock(Integer.MIN_VALUE, Bytes.of(255, 255, 255, 255, 15, 0)
                        .raw(254, 255, 255, 255, 15, 2).summed()));
        Bytes full = Bytes.of(2, 0, 0, 2, 0, 4, 0, 6, 0, 8, 0, 10, 0, 12, 0, 14).summed();
        Bytes next = Bytes.of(18, 16, 0, 18).summed();
        CHECK.hasBytes("the second block begins with a fold",
                written(1, 2, 3, 4, 5, 6, 7, 8, 9, 10),
                Bytes.table(Bytes.of(2, 20, 2, 8, 18), full, next));
    }

    private static void valuesBehindKeys() {
        CHECK.sentence("each followed by the FOLD of its VALUE");
        for (int count : new int[] {1, 7, 8, 9, 15, 16, 17, 24, 25, 80}) {
            asBuilt("close " + count, count, -40, 1, 3);
        }
        // Every byte is a call, and an object is good for 512 of them.
        for (int count : new int[] {1, 7, 8, 9, 16, 17, 24, 25}) {
            asBuilt("wide " + count, count, Integer.MIN_VALUE, 50_000_000, 0x123456789ABCDL);
        }
    }

    private static void asBuilt(String what, int count, int firstKey, int step, long factor) {
        SortedRun run = new SortedRun();
        List<Bytes> blocks = new ArrayList<>();
        Bytes index = Bytes.numbers((count + 7) / 8);
        for (int i = 0; i < count; i++) {
            int key = firstKey + i * step;
            long value = (i - count / 2) * factor;
            run.add(key, value);
            if (i % 8 == 0) {
                blocks.add(new Bytes());
            }
            Bytes block = blocks.get(i / 8);
            block.number(i % 8 == 0 ? Bytes.fold(key) : step - 1).number(Bytes.fold(value));
            if (i % 8 == 7 || i == count - 1) {
                index.number(block.summed().length()).number(Bytes.fold(key - i % 8 * step));
            }
        }
        byte[] due = Bytes.table(index, blocks.toArray(new Bytes[0]));
        CHECK.answers(what + ": write()", due.length, run::write);
        CHECK.hasBytes(what, run, due);
    }

    private static void sumBehindEntries() {
        CHECK.sentence("then a SUM of these bytes");
        CHECK.hasBytes("of all bytes of the entries", written(5, 6),
                Bytes.oneBlock(5, Bytes.numbers(10, 0, 0, 2).summed()));
        // A SUM that would be right for both BLOCKS, or for no bytes, is not the second's own.
        Bytes body = Bytes.numbers(80, 18);
        Bytes both = Blocks.GOOD.copy().bytes(body).summed();
        byte[] end = Arrays.copyOfRange(both.array(), both.length() - 4, both.length());
        Bytes second = body.copy().raw(end[0], end[1], end[2], end[3]);
        SortedRun run = Bytes.opened(
                Bytes.table(Bytes.numbers(2, 8, 10, 6, 80), Blocks.GOOD, second));
        CHECK.answers("the first alone", 2, () -> run.entries(0));
        CHECK.refuses("the sum of both", ArithmeticException.class, () -> run.entries(1));
        SortedRun none = Bytes.opened(Bytes.oneBlock(40, body.copy().raw(0, 0, 0, 0)));
        CHECK.refuses("the sum of none", ArithmeticException.class, () -> none.entries(0));
    }

    private static void commonSum() {
        CHECK.sentence("A SUM is their CRC-32 (the common one, of polynomial 04C11DB7, bits"
                + " reflected, all ones before and behind)");
        // The digits 1 to 8 have the sum 9AE0DAAF, which others than the library tell too.
        int[] digits = {49, 50, 51, 52, 53, 54, 55, 56};
        SortedRun read = Bytes.opened(
                Bytes.oneBlock(-25, Bytes.of(digits).raw(0xAF, 0xDA, 0xE0, 0x9A)));
        CHECK.answers("the digits 1 to 8", 4, () -> read.entries(0));
        CHECK.answers("their first value", 25, () -> read.get(-25));
        SortedRun written = new SortedRun();
        written.add(-25, 25);
        written.add(27, 26);
        written.add(81, 27);
        written.add(137, 28);
        written.write();
        CHECK.answers("the digits are written", 49, () -> written.at(0));
        CHECK.answers("byte 0 of their sum", 0xAF, () -> written.at(8));
        CHECK.answers("byte 1", 0xDA, () -> written.at(9));
        CHECK.answers("byte 2", 0xE0, () -> written.at(10));
        CHECK.answers("byte 3", 0x9A, () -> written.at(11));
        SortedRun empty = Bytes.opened(Bytes.oneBlock(5, Bytes.of(0, 0, 0, 0)));
        CHECK.answers("of no bytes it is 0", 0, () -> empty.entries(0));
        wrongSum("no ones before", digits, 0x39, 0xFA, 0x3D, 0x00);
        wrongSum("no ones behind", digits, 0x50, 0x25, 0x1F, 0x65);
        wrongSum("bits not reflected", digits, 0x04, 0x3D, 0x1C, 0xB6);
    }

    private static void wrongSum(String what, int[] body, int... sum) {
        SortedRun run = Bytes.opened(Bytes.oneBlock(-25, Bytes.of(body).raw(sum)));
        CHECK.refuses(what, ArithmeticException.class, () -> run.entries(0));
    }

    private static void fourBytesOfASum() {
        CHECK.sentence("four bytes, the lowest first");
        CHECK.hasBytes("D202EF8D", new SortedRun(), Bytes.of(0, 0x8D, 0xEF, 0x02, 0xD2)
                .raw(0, 0, 0, 1).array());
        opensNot("the highest first", Bytes.of(0, 0xD2, 0x02, 0xEF, 0x8D, 0, 0, 0, 1).array());
        opensNot("three bytes", Bytes.of(0, 0x8D, 0xEF, 0x02, 0, 0, 0, 1).array());
        opensNot("five bytes", Bytes.of(0, 0x8D, 0xEF, 0x02, 0xD2, 0, 0, 0, 0, 1).array());
        byte[] sum = Arrays.copyOfRange(Blocks.GOOD.array(), 4, 8);
        for (int wrong = 0; wrong < 4; wrong++) {
            byte[] other = sum.clone();
            other[wrong]++;
            SortedRun run = Bytes.opened(Bytes.oneBlock(5, Bytes.numbers(10, 2, 0, 4)
                    .raw(other[0], other[1], other[2], other[3])));
            CHECK.refuses("byte " + wrong, ArithmeticException.class, () -> run.entries(0));
        }
    }

    private static void partsOfATable() {
        CHECK.sentence("THE TABLE are its BLOCKS, then the INDEX: how many BLOCKS there are, of"
                + " each how many bytes it has (with its SUM) and the FOLD of its first KEY, then"
                + " a SUM of these bytes");
        SortedRun run = new SortedRun();
        run.add(5, 1);
        run.add(6, 2);
        CHECK.answers("write()", 19, run::write);
        CHECK.hasBytes("two entries", run, Bytes.of(
                10, 2, 0, 4, 15, 47, 16, 74, 1, 8, 10, 51, 208, 143, 214, 0, 0, 0, 3).array());

        SortedRun two = written(-70, -69, -68, -67, -66, -65, -64, -63, 100);
        Bytes first = Bytes.of(139, 1, 0, 0, 2, 0, 4, 0, 6, 0, 8, 0, 10, 0, 12, 0, 14).summed();
        Bytes second = Bytes.of(200, 1, 16).summed();
        CHECK.hasBytes("two blocks", two,
                Bytes.table(Bytes.of(2, 21, 139, 1, 7, 200, 1), first, second));

        SortedRun full = consecutive(300);
        int size = full.size();
        int index = size - 8 - full.at(size - 1);
        CHECK.answers("38 blocks", 38, () -> full.at(index));
        CHECK.answers("bytes of the first", 20, () -> full.at(index + 1));
    }

    private static void foots() {
        CHECK.sentence("then THE FOOT: how many bytes the INDEX has, without its SUM, in four"
                + " bytes, the highest first");
        SortedRun one = written(5);
        CHECK.answers("an index of three: the highest byte", 0, () -> one.at(13));
        CHECK.answers("the second", 0, () -> one.at(14));
        CHECK.answers("the third", 0, () -> one.at(15));
        CHECK.answers("the lowest", 3, () -> one.at(16));
        SortedRun full = new SortedRun();
        for (int i = 0; i < 300; i++) {
            full.add(Integer.MIN_VALUE + i, i);
        }
        int size = full.write();
        CHECK.answers("the longest index", 1 + 38 * 6, () -> full.at(size - 1));
        CHECK.answers("one byte tells it", 0, () -> full.at(size - 2));
        // Only by hand can an INDEX have more than 255 bytes.
        long[] many = new long[1 + 2 * 128];
        many[0] = 128;
        byte[] table = Bytes.table(Bytes.numbers(many));
        SortedRun told = Bytes.load(table);
        CHECK.answers("258: the third byte", 1, () -> told.at(table.length - 2));
        CHECK.answers("258: the lowest", 2, () -> told.at(table.length - 1));
        CHECK.answers("258 is read", 128, told::open);
        byte[] lowestFirst = Bytes.table(Bytes.numbers(0));
        lowestFirst[5] = 1;
        lowestFirst[8] = 0;
        opensNot("the lowest first", lowestFirst);
        byte[] withSum = Bytes.table(Bytes.numbers(0));
        withSum[8] = 5;
        opensNot("with its sum", withSum);
    }
}
