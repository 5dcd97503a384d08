/** Promise 3: write. */
final class WriteTest {
    private static final Check CHECK = new Check();

    public static void main(String[] args) {
        whatWaits();
        insteadOfAnother();
        noneWaitThen();
        closes();
        howManyBytes();
        theLongestTables();
        CHECK.end();
    }

    private static byte[] tableOf(int key, int value) {
        return Bytes.oneBlock(key, Bytes.numbers(Bytes.fold(key), Bytes.fold(value)).summed());
    }

    private static void whatWaits() {
        CHECK.sentence("THE TABLE is that of the ENTRIES that wait");
        SortedRun run = new SortedRun();
        run.add(5, 1);
        run.add(6, 2);
        run.write();
        CHECK.hasBytes("two entries", run, Bytes.of(
                10, 2, 0, 4, 15, 47, 16, 74, 1, 8, 10, 51, 208, 143, 214, 0, 0, 0, 3).array());
        run.open();
        CHECK.answers("read", 2, () -> run.get(6));
        SortedRun none = new SortedRun();
        none.write();
        CHECK.hasBytes("none", none, Bytes.table(Bytes.numbers(0)));
    }

    private static void insteadOfAnother() {
        CHECK.sentence("THE TABLE is that of the ENTRIES that wait");
        SortedRun run = new SortedRun();
        for (int i = 0; i < 20; i++) {
            run.add(i, i);
        }
        run.write();
        run.add(3, 30);
        CHECK.answers("a shorter one", 17, run::write);
        CHECK.hasBytes("a shorter one", run, tableOf(3, 30));
        run.damage(0, 77);
        run.add(4, 40);
        run.write();
        CHECK.hasBytes("instead of a damaged one", run, tableOf(4, 40));
        run.cut(0);
        run.add(5, 50);
        run.write();
        CHECK.hasBytes("instead of one cut to nothing", run, tableOf(5, 50));
        run.cut(5);
        for (int i = 0; i < 9; i++) {
            run.add(i, 0);
        }
        run.write();
        Bytes eight = Bytes.numbers(0, 0, 0, 0, 0, 0, 0, 0, 0, 0, 0, 0, 0, 0, 0, 0).summed();
        CHECK.hasBytes("a longer one", run, Bytes.table(Bytes.numbers(2, 20, 0, 6, 16), eight,
                Bytes.numbers(16, 0).summed()));
    }

    private static void noneWaitThen() {
        CHECK.sentence("(none wait then)");
        SortedRun run = new SortedRun();
        run.add(3, 30);
        run.write();
        CHECK.answers("the first then", 1, () -> run.add(3, 31));
        run.write();
        CHECK.hasBytes("it alone", run, tableOf(3, 31));
        CHECK.answers("nothing is written again", 9, run::write);
        CHECK.answers("no block", 0, run::open);
        CHECK.answers("nor then", 9, run::write);
        SortedRun full = new SortedRun();
        for (int i = 0; i < 300; i++) {
            full.add(i, i);
        }
        full.write();
        CHECK.answers("none of 300", 1, () -> full.add(-5, 0));
        CHECK.answers("just that one", 17, full::write);
    }

    private static void closes() {
        CHECK.sentence("till it is written");
        SortedRun run = new SortedRun();
        run.add(3, 30);
        run.write();
        run.open();
        run.write();
        CHECK.refuses("by writing nothing", IllegalStateException.class, () -> run.get(3));
        run.open();
        run.add(3, 30);
        run.write();
        CHECK.refuses("by writing an entry", IllegalStateException.class, () -> run.get(3));
    }

    private static void howManyBytes() {
        CHECK.sentence("how many bytes it has");
        for (int count = 0; count <= 300; count++) {
            SortedRun run = new SortedRun();
            for (int i = 0; i < count; i++) {
                run.add(i - 300, i % 64);
            }
            int blocks = (count + 7) / 8;
            // First KEYS from -64 on are FOLDS of one byte, those below it of two.
            int wide = Math.min(blocks, 30);
            int due = 2 * count + 4 * blocks + wide + 1 + 2 * blocks + wide + 8;
            CHECK.answers("write() of " + count, due, run::write);
            CHECK.answers("size() of " + count, due, run::size);
            CHECK.refuses("behind the last of " + count, IndexOutOfBoundsException.class,
                    () -> run.at(due));
        }
    }

    /** As many bytes as 300 ENTRIES can have: VALUES of ten, distances as long as can be. */
    private static void theLongestTables() {
        CHECK.sentence("how many bytes it has");
        longest("steps of four bytes", 14_300_000);
        longest("steps of three bytes", 2_000_000);
        SortedRun wide = new SortedRun();
        int key = Integer.MIN_VALUE;
        for (int i = 0; i < 300; i++) {
            wide.add(key, i % 2 == 0 ? Long.MIN_VALUE : Long.MAX_VALUE);
            key += i < 15 ? 270_000_000 : 1;
        }
        int size = wide.write();
        CHECK.answers("steps of five bytes", size, wide::size);
        CHECK.answers("steps of five bytes: open", 38, wide::open);
        for (int b = 0; b < 38; b++) {
            int block = b;
            CHECK.answers("entries(" + b + ")", b < 37 ? 8 : 4, () -> wide.entries(block));
        }
    }

    private static void longest(String what, int step) {
        SortedRun run = new SortedRun();
        for (int i = 0; i < 300; i++) {
            run.add(Integer.MIN_VALUE + i * step, Long.MIN_VALUE + i);
        }
        int size = run.write();
        CHECK.answers(what + ": size()", size, run::size);
        CHECK.answers(what + ": open()", 38, run::open);
        for (int i = 0; i < 300; i += 13) {
            int key = Integer.MIN_VALUE + i * step;
            CHECK.answers(what + ": value " + i, Long.MIN_VALUE + i, () -> run.get(key));
        }
        CHECK.answers(what + ": the last", Long.MIN_VALUE + 299,
                () -> run.get(Integer.MIN_VALUE + 299 * step));
        for (int b = 0; b < 38; b++) {
            int block = b;
            CHECK.answers(what + ": entries(" + b + ")", b < 37 ? 8 : 4,
                    () -> run.entries(block));
        }
        CHECK.refuses(what + ": behind it", IndexOutOfBoundsException.class, () -> run.at(size));
    }
}
