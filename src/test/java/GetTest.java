import java.util.Map;
import java.util.NoSuchElementException;

/** Promise 8: get. */
final class GetTest {
    private static final Check CHECK = new Check();
    private static final long EVERY_BIT = -1;

    public static void main(String[] args) {
        valuesOfKeys();
        valuesAtTheEdges();
        closed();
        lastBlockNotAbove();
        indexAloneTells();
        wrongSums();
        numbersBeyond();
        numbersTooHigh();
        highestNumbers();
        numbersTooLong();
        allOfItIsLookedAt();
        keysModulo();
        noneSuch();
        notThisKey();
        oddBlocks();
        CHECK.end();
    }

    private static void misses(String what, SortedRun run, int key) {
        CHECK.refuses(what + ": get(" + key + ")", NoSuchElementException.class,
                () -> run.get(key));
    }

    private static void finds(String what, SortedRun run, int key, long value) {
        CHECK.answers(what + ": get(" + key + ")", value, () -> run.get(key));
    }

    private static void breaks(String what, SortedRun run, int key) {
        CHECK.refuses(what + ": get(" + key + ")", ArithmeticException.class, () -> run.get(key));
    }

    private static void valuesOfKeys() {
        CHECK.sentence("The VALUE of a KEY");
        SortedRun run = new SortedRun();
        for (int i = 0; i < 20; i++) {
            run.add(-100 + 10 * i, i % 2 == 0 ? Long.MIN_VALUE + i : Long.MAX_VALUE - i);
        }
        run.write();
        run.open();
        for (int i = 19; i >= 0; i--) {
            finds("written", run, -100 + 10 * i,
                    i % 2 == 0 ? Long.MIN_VALUE + i : Long.MAX_VALUE - i);
        }
    }

    private static void valuesAtTheEdges() {
        CHECK.sentence("The VALUE of a KEY");
        SortedRun run = new SortedRun();
        run.add(Integer.MIN_VALUE, Long.MAX_VALUE);
        run.add(-1, -1);
        run.add(0, 0);
        run.add(Integer.MAX_VALUE, Long.MIN_VALUE);
        run.write();
        run.open();
        finds("the lowest", run, Integer.MIN_VALUE, Long.MAX_VALUE);
        finds("-1", run, -1, -1);
        finds("0", run, 0, 0);
        finds("the highest", run, Integer.MAX_VALUE, Long.MIN_VALUE);
        SortedRun full = new SortedRun();
        for (int i = 0; i < 300; i++) {
            full.add(i, -i);
        }
        full.write();
        full.open();
        for (int i = 0; i < 200; i++) {
            int key = i % 2 == 0 ? i : 299 - i;
            finds("of 300", full, key, -key);
        }
    }

    private static void closed() {
        CHECK.sentence("IllegalStateException if THE TABLE is closed");
        SortedRun run = new SortedRun();
        refusesClosed("new", run);
        run.add(5, 1);
        refusesClosed("waits", run);
        run.write();
        refusesClosed("written", run);
        run.open();
        finds("open", run, 5, 1);
        run.damage(0, 10);
        refusesClosed("damaged", run);
        run.open();
        run.cut(17);
        refusesClosed("cut", run);
        run.open();
        finds("open again", run, 5, 1);
        run.damage(16, 0);
        CHECK.refuses("a wrong foot", ArithmeticException.class, run::open);
        refusesClosed("not opened", run);
    }

    private static void refusesClosed(String what, SortedRun run) {
        CHECK.refuses(what, IllegalStateException.class, () -> run.get(5));
    }

    private static void lastBlockNotAbove() {
        CHECK.sentence("the BLOCK whose first KEY is the last one not above it");
        SortedRun run = Bytes.opened(Blocks.between(Blocks.GOOD));
        finds("the first key of the first block", run, -10, 7);
        finds("the first key of the second", run, 5, 1);
        finds("its last", run, 6, 2);
        finds("the first key of the last", run, 40, 9);
        // A wrong BLOCK shows by its exception to which one each KEY leads.
        SortedRun broken = Bytes.opened(Blocks.between(Blocks.GOOD.flipped(0, 0)));
        misses("one before its first key", broken, 4);
        breaks("its first key", broken, 5);
        breaks("far behind it", broken, 39);
        finds("the next one's first", broken, 40, 9);
        misses("behind all", broken, Integer.MAX_VALUE);
        Bytes low = Bytes.numbers(Bytes.fold(-5), 2).summed();
        Bytes high = Bytes.numbers(Bytes.fold(5), 4).summed();
        SortedRun signs = Bytes.opened(Bytes.table(Bytes.numbers(2, 6, 9, 6, 10), low, high));
        finds("-5 is before 5", signs, -5, 1);
        misses("-6 is before -5", signs, -6);
        misses("4 is in the first", signs, 4);
        finds("5 is in the second", signs, 5, 2);
        SortedRun edges = Bytes.opened(Bytes.table(Bytes.numbers(1, 8, 0xFFFFFFFFL),
                Bytes.of(1, 2, 3, 4, 5, 6, 7, 8)));
        breaks("from the lowest", edges, Integer.MIN_VALUE);
        breaks("to the highest", edges, Integer.MAX_VALUE);
    }

    private static void indexAloneTells() {
        CHECK.sentence("the BLOCK whose first KEY is the last one not above it");
        Bytes low = Bytes.numbers(10, 2).summed();
        Bytes high = Bytes.numbers(20, 4).summed();
        SortedRun told = Bytes.opened(Bytes.table(Bytes.numbers(2, 6, 0, 6, 12), low, high));
        misses("the first is told from 0 on, but begins with 5", told, 0);
        finds("found in the first", told, 5, 1);
        finds("found in the second", told, 10, 2);
        SortedRun falling = Bytes.opened(Bytes.table(Bytes.numbers(2, 6, 20, 6, 10), high, low));
        finds("the last not above 5", falling, 5, 1);
        misses("the last not above 10 has it not", falling, 10);
        SortedRun same = Bytes.opened(Bytes.table(Bytes.numbers(2, 6, 10, 6, 10), low, high));
        misses("of two with one first key the last", same, 5);
        finds("of two the last", same, 10, 2);
    }

    private static void wrongSums() {
        CHECK.sentence("is not right: its SUM");
        Blocks.ofWrongSums().forEach(GetTest::blockBreaks);
    }

    private static void numbersBeyond() {
        CHECK.sentence("or a NUMBER that goes beyond it");
        Blocks.ofNumbersBeyond().forEach(GetTest::blockBreaks);
    }

    private static void numbersTooHigh() {
        CHECK.sentence("or above 2^64 - 1");
        Blocks.ofNumbersTooHigh().forEach(GetTest::blockBreaks);
    }

    private static void blockBreaks(String what, Bytes block) {
        SortedRun run = Bytes.opened(Blocks.between(block));
        breaks(what, run, 5);
        breaks(what, run, 6);
        breaks(what, run, 39);
        misses(what + ", but not before it", run, 4);
        finds(what + ", but not the one before", run, -10, 7);
        finds(what + ", but not the one behind", run, 40, 9);
    }

    private static void highestNumbers() {
        CHECK.sentence("or above 2^64 - 1");
        SortedRun value = Bytes.opened(Bytes.oneBlock(5, Bytes.numbers(10, EVERY_BIT).summed()));
        finds("a value's fold of 2^64 - 1", value, 5, Long.MIN_VALUE);
        SortedRun lower = Bytes.opened(Bytes.oneBlock(5,
                Bytes.numbers(10, EVERY_BIT - 1).summed()));
        finds("2^64 - 2", lower, 5, Long.MAX_VALUE);
        SortedRun half = Bytes.opened(Bytes.oneBlock(5,
                Bytes.numbers(10, Long.MIN_VALUE).summed()));
        finds("2^63", half, 5, 1L << 62);
        SortedRun first = Bytes.opened(Bytes.oneBlock(0, Bytes.numbers(EVERY_BIT, 8).summed()));
        finds("a first key's fold of 2^64 - 1 is -2^63", first, 0, 4);
        SortedRun distance = Bytes.opened(Bytes.oneBlock(5,
                Bytes.numbers(10, 2, EVERY_BIT - 1, 4, 2, 6).summed()));
        finds("a distance of 2^64 - 2, so one less, and three more", distance, 7, 3);
    }

    private static void numbersTooLong() {
        CHECK.sentence("it has at most ten bytes");
        Blocks.ofNumbersTooLong().forEach(GetTest::blockBreaks);
        SortedRun longest = Bytes.opened(Bytes.oneBlock(5, Bytes.of(138, 0)
                .tenBytes(0, 0).raw(128, 0).tenBytes(127, 1).summed()));
        finds("0 in ten bytes", longest, 5, 0);
        finds("the highest in ten bytes", longest, 6, Long.MIN_VALUE);
    }

    private static void allOfItIsLookedAt() {
        CHECK.sentence("(all of it is looked at");
        Map<String, Bytes> ends = Map.of(
                "no value", Bytes.of(0),
                "a distance that does not end", Bytes.of(128),
                "a value that does not end", Bytes.of(0, 128),
                "a distance of 2^64", new Bytes().tenBytes(0, 2).raw(0),
                "a value of 2^64", Bytes.of(0).tenBytes(0, 2),
                "a value of eleven bytes", Bytes.of(0).tenBytes(0, 128).raw(0));
        for (int before : new int[] {1, 2, 7, 8, 20}) {
            ends.forEach((what, end) -> {
                Bytes body = Bytes.numbers(10, 2);
                for (int i = 1; i < before; i++) {
                    body.number(0).number(2);
                }
                SortedRun run = Bytes.opened(Bytes.oneBlock(5, body.bytes(end).summed()));
                breaks(what + " behind " + before, run, 5);
                breaks(what + " right behind " + before, run, 4 + before);
            });
        }
    }

    private static void keysModulo() {
        CHECK.sentence("KEYS are modulo 2^32)");
        int lowest = Integer.MIN_VALUE;
        keysAre("a fold of 2^32 is 2^31", Bytes.numbers(1L << 32, 0), lowest);
        keysAre("a fold of 2^33 is 2^32", Bytes.numbers(1L << 33, 0), 0);
        keysAre("a fold of 2^32 + 1 is -2^31 - 1", Bytes.numbers((1L << 32) + 1, 0),
                Integer.MAX_VALUE);
        keysAre("a fold of 2^64 - 1 is -2^63", Bytes.numbers(EVERY_BIT, 0), 0);
        keysAre("a fold of 2^64 - 2 is 2^63 - 1", Bytes.numbers(EVERY_BIT - 1, 0), -1);
        keysAre("beyond the highest", Bytes.numbers(Bytes.fold(Integer.MAX_VALUE), 0, 0, 2),
                Integer.MAX_VALUE, lowest);
        keysAre("far beyond it", Bytes.numbers(Bytes.fold(Integer.MAX_VALUE), 0, 6, 2, 0, 4),
                Integer.MAX_VALUE, lowest + 6, lowest + 7);
        keysAre("2^32 - 1 goes one back", Bytes.numbers(10, 0, (1L << 32) - 2, 2), 5, 4);
        keysAre("2^64 - 1 goes one back", Bytes.numbers(10, 0, EVERY_BIT - 1, 2, 4, 4), 5, 4, 9);
        keysAre("2^63 is none", Bytes.numbers(10, 0, Long.MIN_VALUE, 2), 5, 6);
        keysAre("2^40 is none", Bytes.numbers(10, 0, (1L << 40) + 6, 2), 5, 12);
    }

    /** VALUES 0, 1 and so on, the KEYS all different. */
    private static void keysAre(String what, Bytes body, int... keys) {
        SortedRun run = Bytes.opened(Bytes.oneBlock(Integer.MIN_VALUE, body.summed()));
        for (int i = 0; i < keys.length; i++) {
            finds(what, run, keys[i], i);
        }
    }

    private static void noneSuch() {
        CHECK.sentence("NoSuchElementException if there is none such");
        SortedRun none = Bytes.opened(Bytes.table(Bytes.numbers(0)));
        for (int key : new int[] {0, 1, -1, Integer.MIN_VALUE, Integer.MAX_VALUE}) {
            misses("no block at all", none, key);
        }
        SortedRun run = Bytes.opened(Blocks.between(Blocks.GOOD));
        misses("before every block", run, -11);
        misses("the lowest", run, Integer.MIN_VALUE);
        SortedRun broken = Bytes.opened(Bytes.oneBlock(5, Bytes.of(1, 2, 3, 4, 5)));
        misses("before one that is not right", broken, 4);
        breaks("and in it", broken, 5);
        SortedRun highest = new SortedRun();
        highest.add(Integer.MAX_VALUE, 3);
        highest.write();
        highest.open();
        misses("one below the highest", highest, Integer.MAX_VALUE - 1);
        finds("the highest", highest, Integer.MAX_VALUE, 3);
    }

    private static void notThisKey() {
        CHECK.sentence("or it has not this KEY");
        SortedRun run = new SortedRun();
        for (int i = 0; i < 20; i++) {
            run.add(-100 + 10 * i, i);
        }
        run.write();
        run.open();
        for (int i = 0; i < 20; i++) {
            misses("behind key " + i, run, -100 + 10 * i + 1);
            misses("before key " + i, run, -100 + 10 * i - 1);
        }
        misses("behind all", run, 91);
        misses("the highest", run, Integer.MAX_VALUE);
        Bytes far = Bytes.numbers(10, 2, 34, 4).summed();
        SortedRun other = Bytes.opened(
                Bytes.table(Bytes.numbers(2, 8, 10, 6, 80), far, Bytes.numbers(90, 2).summed()));
        misses("40 is in the block before only", other, 40);
        finds("45 is in that of 40", other, 45, 1);
    }

    private static void oddBlocks() {
        CHECK.sentence("or it has not this KEY");
        SortedRun bare = Bytes.opened(Bytes.oneBlock(5, new Bytes().summed()));
        misses("a sum alone", bare, 5);
        misses("a sum alone", bare, 0x7FFFFFFF);
        Bytes body = Bytes.numbers(10, 0);
        for (int i = 1; i < 100; i++) {
            body.number(0).number(2 * (i % 60));
        }
        SortedRun full = Bytes.opened(Bytes.oneBlock(5, body.summed()));
        finds("the ninth of a hundred", full, 13, 8);
        finds("the last of a hundred", full, 104, 39);
        misses("behind it", full, 105);
    }
}
