import java.util.NoSuchElementException;

/** Promises 8, 9 and 10: get, entries and key. */
final class ReadTest {
    private static final Check CHECK = new Check();
    private static final long EVERY_BIT = -1;

    public static void main(String[] args) {
        whatWasWritten();
        orderOfExceptions();
        blocksThatAreNotRight();
        numbersOfABlock();
        keysModulo();
        whichBlock();
        oddBlocks();
        CHECK.end();
    }

    private static SortedRun opened(byte[] bytes) {
        SortedRun run = Bytes.load(bytes);
        run.open();
        return run;
    }

    private static void misses(String what, SortedRun run, int key) {
        CHECK.refuses(what + ": get(" + key + ")", NoSuchElementException.class,
                () -> run.get(key));
    }

    private static void noEntry(String what, SortedRun run, int b, int i) {
        CHECK.refuses(what + ": key(" + b + ", " + i + ")", IndexOutOfBoundsException.class,
                () -> run.key(b, i));
    }

    private static void notRight(String what, SortedRun run, int b, int key) {
        CHECK.refuses(what + ": get", ArithmeticException.class, () -> run.get(key));
        CHECK.refuses(what + ": entries", ArithmeticException.class, () -> run.entries(b));
        CHECK.refuses(what + ": key", ArithmeticException.class, () -> run.key(b, 0));
        CHECK.refuses(what + ": key -1", ArithmeticException.class, () -> run.key(b, -1));
        CHECK.refuses(what + ": key 99", ArithmeticException.class, () -> run.key(b, 99));
    }

    private static void whatWasWritten() {
        SortedRun run = new SortedRun();
        for (int i = 0; i < 20; i++) {
            run.add(-100 + 10 * i, i % 2 == 0 ? Long.MIN_VALUE + i : Long.MAX_VALUE - i);
        }
        run.write();
        run.open();
        for (int i = 0; i < 20; i++) {
            int at = i;
            int key = -100 + 10 * i;
            CHECK.answers("get(" + key + ")", i % 2 == 0 ? Long.MIN_VALUE + i : Long.MAX_VALUE - i,
                    () -> run.get(key));
            CHECK.answers("key of entry " + i, key, () -> run.key(at / 8, at % 8));
            misses("between", run, key + 1);
            misses("between", run, key - 1);
        }
        misses("the lowest", run, Integer.MIN_VALUE);
        misses("the highest", run, Integer.MAX_VALUE);
        CHECK.answers("entries(0)", 8, () -> run.entries(0));
        CHECK.answers("entries(1)", 8, () -> run.entries(1));
        CHECK.answers("entries(2)", 4, () -> run.entries(2));
        for (int b : new int[] {-1, 3, Integer.MIN_VALUE, Integer.MAX_VALUE}) {
            CHECK.refuses("entries(" + b + ")", IndexOutOfBoundsException.class,
                    () -> run.entries(b));
            noEntry("no block", run, b, 0);
        }
        for (int i : new int[] {-1, 4, 8, Integer.MIN_VALUE, Integer.MAX_VALUE}) {
            noEntry("no entry", run, 2, i);
        }
        noEntry("a full block", run, 0, 8);
        CHECK.answers("what threw changed nothing", 3, run::open);
    }

    private static void orderOfExceptions() {
        SortedRun run = Bytes.load(Bytes.oneBlock(5, Bytes.of(1, 2, 3, 4, 5)));
        CHECK.refuses("closed: get", IllegalStateException.class, () -> run.get(5));
        CHECK.refuses("closed: entries", IllegalStateException.class, () -> run.entries(-1));
        CHECK.refuses("closed: key", IllegalStateException.class, () -> run.key(-1, -1));
        run.open();
        notRight("open", run, 0, 5);
        noEntry("no block, whatever others are", run, 1, 0);
        misses("below every block", run, 4);
        CHECK.refuses("a key that is not there", ArithmeticException.class, () -> run.get(99));
    }

    private static void blocksThatAreNotRight() {
        Bytes good = Bytes.numbers(10, 2, 0, 4).summed();
        Bytes index = Bytes.numbers(3, 8, 10, 8, 40, 8, 80);
        for (int i = 0; i < 8; i++) {
            for (int bit = 0; bit < 8; bit++) {
                byte[] wrong = good.array();
                wrong[i] ^= (byte) (1 << bit);
                Bytes bad = new Bytes();
                for (byte b : wrong) {
                    bad.raw(b);
                }
                SortedRun run = opened(Bytes.table(index, good, bad, good));
                notRight("byte " + i + " bit " + bit, run, 1, 20);
                CHECK.answers("the one before", 1, () -> run.get(5));
                CHECK.answers("the one behind", 2, () -> run.entries(2));
            }
        }
        for (int length = 0; length < 4; length++) {
            SortedRun run = opened(Bytes.oneBlock(5, Bytes.of(new int[length])));
            notRight("too short for a sum: " + length, run, 0, 5);
        }
    }

    private static void numbersOfABlock() {
        wrongBody("no value", Bytes.numbers(10));
        wrongBody("no second value", Bytes.numbers(10, 2, 0));
        wrongBody("a value that does not end", Bytes.of(10, 130));
        wrongBody("a key that does not end", Bytes.of(10, 2, 128));
        wrongBody("a first key that does not end", Bytes.of(138));
        wrongBody("a value of 2^64", Bytes.of(10, 128, 128, 128, 128, 128, 128, 128, 128, 128, 2));
        wrongBody("a value above 2^64",
                Bytes.of(10, 255, 255, 255, 255, 255, 255, 255, 255, 255, 3));
        wrongBody("a key of 2^64", Bytes.of(128, 128, 128, 128, 128, 128, 128, 128, 128, 2, 0));
        wrongBody("a value of eleven bytes",
                Bytes.of(10, 128, 128, 128, 128, 128, 128, 128, 128, 128, 128, 0));
        wrongBody("a distance of eleven bytes",
                Bytes.of(10, 2, 128, 128, 128, 128, 128, 128, 128, 128, 128, 129, 0, 4));
        wrongBody("far behind", Bytes.numbers(10, 2, 0, 4, 0, 6, 0, 8, 0, 10, 0));
        SortedRun longest = opened(Bytes.oneBlock(5, Bytes.of(138, 0)
                .raw(130, 128, 128, 128, 128, 128, 128, 128, 128, 0).raw(128, 0)
                .raw(255, 255, 255, 255, 255, 255, 255, 255, 255, 1).summed()));
        CHECK.answers("numbers longer than need be", 2, () -> longest.entries(0));
        CHECK.answers("a short value in ten bytes", 1, () -> longest.get(5));
        CHECK.answers("the highest number", Long.MIN_VALUE, () -> longest.get(6));
    }

    private static void wrongBody(String what, Bytes body) {
        notRight(what, opened(Bytes.oneBlock(5, body.summed())), 0, 5);
    }

    private static void keysModulo() {
        int lowest = Integer.MIN_VALUE;
        keysAre("a fold of 2^32 is 2^31", Bytes.numbers(1L << 32, 0), lowest);
        keysAre("a fold of 2^33 is 2^32", Bytes.numbers(1L << 33, 0), 0);
        keysAre("a fold of 2^32 + 1 is -2^31 - 1", Bytes.numbers((1L << 32) + 1, 0),
                Integer.MAX_VALUE);
        keysAre("a fold of 2^64 - 1 is -2^63", Bytes.numbers(EVERY_BIT, 0), 0);
        keysAre("a fold of 2^64 - 2 is 2^63 - 1", Bytes.numbers(EVERY_BIT - 1, 0), -1);
        keysAre("beyond the highest", Bytes.numbers(Bytes.fold(Integer.MAX_VALUE), 0, 0, 2),
                Integer.MAX_VALUE, lowest);
        keysAre("a distance of 2^64 is none", Bytes.numbers(10, 0, EVERY_BIT, 2, 0, 4), 5, 5, 6);
        keysAre("2^32 - 1 goes one back", Bytes.numbers(10, 0, (1L << 32) - 2, 2), 5, 4);
        keysAre("2^40 is none", Bytes.numbers(10, 0, (1L << 40) + 6, 2), 5, 12);
    }

    private static void keysAre(String what, Bytes body, int... keys) {
        SortedRun run = opened(Bytes.oneBlock(Integer.MIN_VALUE, body.summed()));
        CHECK.answers(what + ": entries", keys.length, () -> run.entries(0));
        for (int i = 0; i < keys.length; i++) {
            int at = i;
            CHECK.answers(what + ": key " + i, keys[i], () -> run.key(0, at));
            boolean isFirst = i == 0 || keys[i] != keys[i - 1];
            CHECK.answers(what + ": get " + i, isFirst ? i : i - 1, () -> run.get(keys[at]));
        }
    }

    private static void whichBlock() {
        Bytes low = Bytes.numbers(10, 2).summed();
        Bytes high = Bytes.numbers(20, 4).summed();
        SortedRun rising = opened(Bytes.table(Bytes.numbers(2, 6, 10, 6, 20), low, high));
        CHECK.answers("the first", 1, () -> rising.get(5));
        CHECK.answers("the second", 2, () -> rising.get(10));
        misses("below all", rising, 4);
        misses("in the first", rising, 9);
        misses("in the second", rising, 11);

        SortedRun falling = opened(Bytes.table(Bytes.numbers(2, 6, 20, 6, 10), high, low));
        CHECK.answers("the last not above 5", 1, () -> falling.get(5));
        misses("the last not above 10 has it not", falling, 10);

        // The index tells other KEYS than the BLOCKS have: it alone says where to look.
        SortedRun told = opened(Bytes.table(Bytes.numbers(2, 6, 0, 6, 12), low, high));
        misses("5 is sought in none, then in the first", told, 0);
        CHECK.answers("found in the first", 1, () -> told.get(5));
        CHECK.answers("found in the second", 2, () -> told.get(10));
        SortedRun signs = opened(Bytes.table(Bytes.numbers(2, 6, 9, 6, 20), low, high));
        CHECK.answers("-5 is below 5", 1, () -> signs.get(5));
        misses("below -5", signs, -6);

        SortedRun same = opened(Bytes.table(Bytes.numbers(2, 6, 10, 6, 10), low, high));
        misses("of two with one first key the last", same, 5);
        CHECK.answers("of two the last", 2, () -> same.get(10));

        SortedRun none = opened(Bytes.table(Bytes.numbers(0)));
        misses("no block at all", none, 0);
        CHECK.refuses("no block: entries", IndexOutOfBoundsException.class, () -> none.entries(0));
    }

    private static void oddBlocks() {
        SortedRun bare = opened(Bytes.oneBlock(5, new Bytes().summed()));
        CHECK.answers("a sum alone", 0, () -> bare.entries(0));
        misses("a sum alone", bare, 5);
        noEntry("a sum alone", bare, 0, 0);

        Bytes body = Bytes.numbers(10, 0);
        for (int i = 1; i < 100; i++) {
            body.number(0).number(2 * (i % 60));
        }
        SortedRun full = opened(Bytes.oneBlock(5, body.summed()));
        CHECK.answers("a hundred entries", 100, () -> full.entries(0));
        CHECK.answers("the last key", 104, () -> full.key(0, 99));
        CHECK.answers("the last value", 39, () -> full.get(104));
        misses("behind it", full, 105);
        noEntry("behind it", full, 0, 100);
    }
}
