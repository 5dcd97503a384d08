/** Promise 10: key. */
final class KeyTest {
    private static final Check CHECK = new Check();

    public static void main(String[] args) {
        keysOfEntries();
        keysModulo();
        closed();
        noSuchBlock();
        notRight();
        noSuchEntry();
        noSuchEntryIsLast();
        CHECK.end();
    }

    private static SortedRun written(int count, int first, int step) {
        SortedRun run = new SortedRun();
        for (int i = 0; i < count; i++) {
            run.add(first + i * step, -i);
        }
        run.write();
        run.open();
        return run;
    }

    private static void keysOfEntries() {
        CHECK.sentence("The KEY of ENTRY i of BLOCK b");
        allKeys("close", 100, -50, 1);
        allKeys("wide", 100, Integer.MIN_VALUE, 42_000_000);
        allKeys("one", 1, Integer.MAX_VALUE, 1);
        SortedRun edges = new SortedRun();
        edges.add(Integer.MIN_VALUE, 0);
        edges.add(Integer.MAX_VALUE, 0);
        edges.write();
        edges.open();
        CHECK.answers("the highest", Integer.MAX_VALUE, () -> edges.key(0, 1));
        CHECK.answers("the lowest", Integer.MIN_VALUE, () -> edges.key(0, 0));
        SortedRun full = written(300, 0, 1);
        CHECK.answers("the first of 300", 0, () -> full.key(0, 0));
        CHECK.answers("the last of 300", 299, () -> full.key(37, 3));
        SortedRun told = Bytes.opened(Bytes.oneBlock(-100, Blocks.GOOD));
        CHECK.answers("the block's own, not what the index tells", 5, () -> told.key(0, 0));
    }

    private static void allKeys(String what, int count, int first, int step) {
        SortedRun run = written(count, first, step);
        for (int i = count - 1; i >= 0; i--) {
            int at = i;
            CHECK.answers(what + ": key(" + i / 8 + ", " + i % 8 + ")", first + i * step,
                    () -> run.key(at / 8, at % 8));
        }
    }

    private static void keysModulo() {
        CHECK.sentence("KEYS are modulo 2^32");
        int lowest = Integer.MIN_VALUE;
        int highest = Integer.MAX_VALUE;
        keysAre("a fold of 2^32 is 2^31", Bytes.numbers(1L << 32, 0), lowest);
        keysAre("a fold of 2^33 is 2^32", Bytes.numbers(1L << 33, 0), 0);
        keysAre("a fold of 2^32 + 1 is -2^31 - 1", Bytes.numbers((1L << 32) + 1, 0), highest);
        keysAre("a fold of 2^64 - 1 is -2^63", Bytes.numbers(-1, 0), 0);
        keysAre("a fold of 2^64 - 2 is 2^63 - 1", Bytes.numbers(-2, 0), -1);
        keysAre("beyond the highest", Bytes.numbers(Bytes.fold(highest), 0, 0, 2, 0, 4),
                highest, lowest, lowest + 1);
        keysAre("2^32 more is none", Bytes.numbers(10, 0, (1L << 32) - 1, 2, 0, 4), 5, 5, 6);
        keysAre("2^64 more is none", Bytes.numbers(10, 0, -1, 2, 0, 4), 5, 5, 6);
        keysAre("2^32 - 1 goes one back", Bytes.numbers(10, 0, (1L << 32) - 2, 2), 5, 4);
        keysAre("2^63 is none", Bytes.numbers(10, 0, Long.MIN_VALUE, 2), 5, 6);
        keysAre("2^40 is none", Bytes.numbers(10, 0, (1L << 40) + 6, 2), 5, 12);
    }

    private static void keysAre(String what, Bytes body, int... keys) {
        SortedRun run = Bytes.opened(Bytes.oneBlock(0, body.summed()));
        for (int i = 0; i < keys.length; i++) {
            int at = i;
            CHECK.answers(what + ": key " + i, keys[i], () -> run.key(0, at));
        }
    }

    private static void closed() {
        CHECK.sentence("Thrown as by entries");
        SortedRun run = new SortedRun();
        refusesClosed("new", run);
        run.add(5, 1);
        run.write();
        refusesClosed("written", run);
        run.open();
        CHECK.answers("open", 5, () -> run.key(0, 0));
        run.damage(0, 10);
        refusesClosed("damaged", run);
        run.open();
        run.cut(17);
        refusesClosed("cut", run);
        run.damage(16, 0);
        CHECK.refuses("a wrong foot", ArithmeticException.class, run::open);
        refusesClosed("not opened", run);
    }

    private static void refusesClosed(String what, SortedRun run) {
        for (int b : new int[] {0, 1, -1, Integer.MAX_VALUE, Integer.MIN_VALUE}) {
            for (int i : new int[] {0, 1, -1}) {
                CHECK.refuses(what + ": " + b + ", " + i, IllegalStateException.class,
                        () -> run.key(b, i));
            }
        }
    }

    private static void noSuchBlock() {
        CHECK.sentence("Thrown as by entries");
        for (int count : new int[] {0, 1, 8, 9, 16, 17, 300}) {
            SortedRun run = written(count, 0, 1);
            int blocks = (count + 7) / 8;
            for (int b : new int[] {blocks, blocks + 1, 2444, 2445, Integer.MAX_VALUE, -1, -2,
                    Integer.MIN_VALUE}) {
                CHECK.refuses("no block " + b + " of " + blocks, IndexOutOfBoundsException.class,
                        () -> run.key(b, 0));
            }
        }
    }

    private static void notRight() {
        CHECK.sentence("Thrown as by entries");
        Blocks.notRight().forEach((what, block) -> {
            SortedRun run = Bytes.opened(Blocks.between(block));
            CHECK.refuses(what, ArithmeticException.class, () -> run.key(1, 0));
            CHECK.answers(what + ", but not the one before", -10, () -> run.key(0, 0));
            CHECK.answers(what + ", but not the one behind", 40, () -> run.key(2, 0));
        });
    }

    private static void noSuchEntry() {
        CHECK.sentence("IndexOutOfBoundsException also, last, if it has no such ENTRY");
        SortedRun run = written(20, 0, 1);
        for (int i : new int[] {8, 9, Integer.MAX_VALUE, -1, Integer.MIN_VALUE}) {
            noEntry("a full block", run, 0, i);
        }
        for (int i : new int[] {4, 5, 7, 8, Integer.MAX_VALUE, -1, Integer.MIN_VALUE}) {
            noEntry("the last block", run, 2, i);
        }
        CHECK.answers("its last", 19, () -> run.key(2, 3));
        SortedRun bare = Bytes.opened(Bytes.oneBlock(5, new Bytes().summed()));
        noEntry("a sum alone", bare, 0, 0);
        noEntry("a sum alone", bare, 0, -1);
        Bytes body = new Bytes();
        for (int i = 0; i < 100; i++) {
            body.number(0).number(0);
        }
        SortedRun full = Bytes.opened(Bytes.oneBlock(0, body.summed()));
        CHECK.answers("the last of a hundred", 99, () -> full.key(0, 99));
        noEntry("a hundred", full, 0, 100);
    }

    private static void noEntry(String what, SortedRun run, int b, int i) {
        CHECK.refuses(what + ": key(" + b + ", " + i + ")", IndexOutOfBoundsException.class,
                () -> run.key(b, i));
    }

    private static void noSuchEntryIsLast() {
        CHECK.sentence("IndexOutOfBoundsException also, last, if it has no such ENTRY");
        Blocks.notRight().forEach((what, block) -> {
            SortedRun run = Bytes.opened(Blocks.between(block));
            for (int i : new int[] {-1, 2, 99, Integer.MIN_VALUE, Integer.MAX_VALUE}) {
                CHECK.refuses(what + ": key(1, " + i + ")", ArithmeticException.class,
                        () -> run.key(1, i));
            }
        });
    }
}
