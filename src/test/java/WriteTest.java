import java.util.ArrayList;
import java.util.List;

/** Promises 3, 4 and 11: the bytes of a written table. */
final class WriteTest {
    private static final Check CHECK = new Check();

    public static void main(String[] args) {
        byHand();
        for (int count : new int[] {0, 1, 7, 8, 9, 15, 16, 17, 24, 25, 80}) {
            asBuilt("close " + count, count, -40, 1, 3);
        }
        // Every byte is a call, and an object is good for 512 of them.
        for (int count : new int[] {1, 7, 8, 9, 16, 17, 24, 25}) {
            asBuilt("wide " + count, count, Integer.MIN_VALUE, 50_000_000, 0x123456789ABCDL);
        }
        edgesOfKeysAndValues();
        theLongestTable();
        writingAgain();
        CHECK.end();
    }

    private static void byHand() {
        SortedRun run = new SortedRun();
        run.add(5, 1);
        run.add(6, 2);
        CHECK.answers("write()", 19, run::write);
        CHECK.hasBytes("two entries", run, Bytes.of(
                10, 2, 0, 4, 15, 47, 16, 74, 1, 8, 10, 51, 208, 143, 214, 0, 0, 0, 3).array());
    }

    private static void asBuilt(String what, int count, int firstKey, int step, long factor) {
        SortedRun run = new SortedRun();
        List<Bytes> blocks = new ArrayList<>();
        Bytes index = Bytes.numbers((count + 7) / 8);
        for (int i = 0; i < count; i++) {
            int key = firstKey + i * step;
            long value = (i - count / 2) * factor;
            run.add(key, value);
            if (i % 8 == 0) {
                blocks.add(new Bytes());
            }
            Bytes block = blocks.get(i / 8);
            block.number(i % 8 == 0 ? Bytes.fold(key) : step - 1).number(Bytes.fold(value));
            if (i % 8 == 7 || i == count - 1) {
                index.number(block.summed().length()).number(Bytes.fold(key - i % 8 * step));
            }
        }
        byte[] due = Bytes.table(index, blocks.toArray(new Bytes[0]));
        CHECK.answers(what + ": write()", due.length, run::write);
        CHECK.hasBytes(what, run, due);
    }

    private static void edgesOfKeysAndValues() {
        SortedRun run = new SortedRun();
        int[] keys = {Integer.MIN_VALUE, -1, 0, 1, 64, 193, Integer.MAX_VALUE};
        long[] values = {Long.MIN_VALUE, Long.MAX_VALUE, -1, 0, 63, -64, 64};
        for (int i = 0; i < keys.length; i++) {
            run.add(keys[i], values[i]);
        }
        run.write();
        Bytes block = Bytes.of(255, 255, 255, 255, 15)
                .raw(255, 255, 255, 255, 255, 255, 255, 255, 255, 1)
                .raw(254, 255, 255, 255, 7)
                .raw(254, 255, 255, 255, 255, 255, 255, 255, 255, 1)
                .raw(0, 1).raw(0, 0).raw(62, 126).raw(128, 1, 127).number(0x7FFFFFFFL - 193 - 1)
                .raw(128, 1).summed();
        CHECK.hasBytes("edges", run, Bytes.oneBlock(Integer.MIN_VALUE, block));

        SortedRun far = new SortedRun();
        far.add(Integer.MIN_VALUE, 0);
        far.add(Integer.MAX_VALUE, 0);
        far.write();
        CHECK.hasBytes("the farthest keys", far, Bytes.oneBlock(Integer.MIN_VALUE,
                Bytes.of(255, 255, 255, 255, 15, 0, 254, 255, 255, 255, 15, 0).summed()));
        far.open();
        CHECK.answers("and back", Integer.MAX_VALUE, () -> far.key(0, 1));
    }

    private static void theLongestTable() {
        SortedRun run = new SortedRun();
        for (int i = 0; i < 300; i++) {
            run.add(Integer.MIN_VALUE + i * 6_000_000, Long.MIN_VALUE + i);
        }
        int size = run.write();
        CHECK.answers("size()", size, run::size);
        CHECK.answers("open()", 38, run::open);
        CHECK.answers("the first", Long.MIN_VALUE, () -> run.get(Integer.MIN_VALUE));
        CHECK.answers("the last", Long.MIN_VALUE + 299,
                () -> run.get(Integer.MIN_VALUE + 299 * 6_000_000));
        for (int b = 0; b < 38; b++) {
            int block = b;
            CHECK.answers("entries(" + b + ")", b < 37 ? 8 : 4, () -> run.entries(block));
        }
        CHECK.answers("the foot's last byte", 1 + 38 * 6, () -> run.at(size - 1));
        CHECK.refuses("behind it", IndexOutOfBoundsException.class, () -> run.at(size));
    }

    private static void writingAgain() {
        SortedRun run = new SortedRun();
        for (int i = 0; i < 20; i++) {
            run.add(i, i);
        }
        run.write();
        run.open();
        run.add(3, 30);
        CHECK.answers("a shorter one", 17, run::write);
        CHECK.refuses("closed by write", IllegalStateException.class, () -> run.get(3));
        CHECK.hasBytes("only what waited", run,
                Bytes.oneBlock(3, Bytes.numbers(6, 60).summed()));
        run.open();
        CHECK.answers("nothing waits", 9, run::write);
        CHECK.refuses("closed by writing nothing", IllegalStateException.class, () -> run.get(3));
        CHECK.answers("no block", 0, run::open);
    }
}
