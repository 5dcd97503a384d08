/** Promise 9: entries. */
final class EntriesTest {
    private static final Check CHECK = new Check();

    public static void main(String[] args) {
        howMany();
        howManyOfACraftedBlock();
        closed();
        noSuchBlock();
        notRight();
        tooShortForASum();
        CHECK.end();
    }

    private static SortedRun consecutive(int count) {
        SortedRun run = new SortedRun();
        for (int i = 0; i < count; i++) {
            run.add(i, i);
        }
        run.write();
        run.open();
        return run;
    }

    private static void howMany() {
        CHECK.sentence("How many ENTRIES BLOCK b has");
        for (int count = 1; count <= 8; count++) {
            SortedRun run = consecutive(count);
            CHECK.answers("one block of " + count, count, () -> run.entries(0));
        }
        SortedRun run = consecutive(20);
        CHECK.answers("the first", 8, () -> run.entries(0));
        CHECK.answers("the second", 8, () -> run.entries(1));
        CHECK.answers("the last", 4, () -> run.entries(2));
        CHECK.answers("the first again", 8, () -> run.entries(0));
        SortedRun full = consecutive(300);
        for (int b = 0; b < 38; b++) {
            int block = b;
            CHECK.answers("of 300, block " + b, b < 37 ? 8 : 4, () -> full.entries(block));
        }
    }

    private static void howManyOfACraftedBlock() {
        CHECK.sentence("How many ENTRIES BLOCK b has");
        SortedRun bare = Bytes.opened(Bytes.oneBlock(5, new Bytes().summed()));
        CHECK.answers("a sum alone", 0, () -> bare.entries(0));
        for (int count : new int[] {1, 2, 7, 8, 9, 16, 100}) {
            Bytes body = new Bytes();
            for (int i = 0; i < count; i++) {
                body.number(1).number(2);
            }
            SortedRun run = Bytes.opened(Bytes.oneBlock(-1, body.summed()));
            CHECK.answers("a block of " + count, count, () -> run.entries(0));
        }
        SortedRun many = Bytes.loadOverZeroes(
                Bytes.oneBlock(0, Bytes.of(new int[2 * 345]).summed()));
        CHECK.answers("open", 1, many::open);
        CHECK.answers("a block of 345", 345, () -> many.entries(0));
        CHECK.answers("the last key of 345", 344, () -> many.key(0, 344));
        CHECK.answers("the last value of 345", 0, () -> many.get(344));
        SortedRun wide = Bytes.opened(Bytes.oneBlock(-1,
                new Bytes().tenBytes(127, 1).tenBytes(127, 1).tenBytes(127, 1).tenBytes(127, 1)
                        .summed()));
        CHECK.answers("four numbers of ten bytes", 2, () -> wide.entries(0));
        SortedRun three = Bytes.opened(Blocks.between(Blocks.GOOD));
        CHECK.answers("of three the first", 1, () -> three.entries(0));
        CHECK.answers("of three the second", 2, () -> three.entries(1));
        CHECK.answers("of three the last", 1, () -> three.entries(2));
    }

    private static void closed() {
        CHECK.sentence("IllegalStateException as by get");
        SortedRun run = new SortedRun();
        refusesClosed("new", run);
        run.add(5, 1);
        run.write();
        refusesClosed("written", run);
        run.open();
        CHECK.answers("open", 1, () -> run.entries(0));
        run.damage(0, 10);
        refusesClosed("damaged", run);
        run.open();
        run.cut(17);
        refusesClosed("cut", run);
        run.damage(16, 0);
        CHECK.refuses("a wrong foot", ArithmeticException.class, run::open);
        refusesClosed("not opened", run);
    }

    private static void refusesClosed(String what, SortedRun run) {
        for (int b : new int[] {0, 1, -1, Integer.MAX_VALUE, Integer.MIN_VALUE}) {
            CHECK.refuses(what + ": " + b, IllegalStateException.class, () -> run.entries(b));
        }
    }

    private static void noSuchBlock() {
        CHECK.sentence("IndexOutOfBoundsException if there is no BLOCK b");
        for (int count : new int[] {0, 1, 8, 9, 16, 17, 300}) {
            SortedRun run = consecutive(count);
            int blocks = (count + 7) / 8;
            for (int b : new int[] {blocks, blocks + 1, 2444, 2445, Integer.MAX_VALUE, -1, -2,
                    Integer.MIN_VALUE}) {
                CHECK.refuses("of " + blocks + ": " + b, IndexOutOfBoundsException.class,
                        () -> run.entries(b));
            }
        }
        SortedRun shorter = consecutive(20);
        CHECK.answers("three blocks", 4, () -> shorter.entries(2));
        shorter.add(1, 1);
        shorter.write();
        shorter.open();
        CHECK.answers("now one", 1, () -> shorter.entries(0));
        CHECK.refuses("no second", IndexOutOfBoundsException.class, () -> shorter.entries(1));
        CHECK.refuses("no third", IndexOutOfBoundsException.class, () -> shorter.entries(2));
    }

    private static void notRight() {
        CHECK.sentence("ArithmeticException if it is not right");
        Blocks.notRight().forEach((what, block) -> {
            SortedRun run = Bytes.opened(Blocks.between(block));
            CHECK.refuses(what, ArithmeticException.class, () -> run.entries(1));
            CHECK.answers(what + ", but not the one before", 1, () -> run.entries(0));
            CHECK.answers(what + ", but not the one behind", 1, () -> run.entries(2));
        });
    }

    /** Four bytes of 0 are a right SUM of no bytes, but not if they begin before the BLOCK. */
    private static void tooShortForASum() {
        CHECK.sentence("ArithmeticException if it is not right");
        Bytes bare = new Bytes().summed();
        for (int length = 0; length < 4; length++) {
            Bytes small = Bytes.of(new int[length]);
            SortedRun first = Bytes.opened(Bytes.oneBlock(5, small));
            CHECK.refuses("the first has " + length, ArithmeticException.class,
                    () -> first.entries(0));
            CHECK.refuses("get in one of " + length, ArithmeticException.class,
                    () -> first.get(5));
            SortedRun second = Bytes.opened(
                    Bytes.table(Bytes.numbers(2, 4, 0, length, 10), bare, small));
            CHECK.answers("the one before", 0, () -> second.entries(0));
            CHECK.refuses("the second has " + length, ArithmeticException.class,
                    () -> second.entries(1));
            CHECK.refuses("key of one of " + length, ArithmeticException.class,
                    () -> second.key(1, 0));
        }
    }
}
