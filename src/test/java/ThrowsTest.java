import java.util.NoSuchElementException;

/** "Terms": which exception a call throws of several that fit, and what it leaves as it was. */
final class ThrowsTest {
    private static final Check CHECK = new Check();
    private static final Class<IllegalStateException> CLOSED = IllegalStateException.class;
    private static final Class<IndexOutOfBoundsException> NOT_THERE =
            IndexOutOfBoundsException.class;
    private static final Class<ArithmeticException> NOT_RIGHT = ArithmeticException.class;
    private static final Class<NoSuchElementException> NO_KEY = NoSuchElementException.class;
    private static final Class<IllegalArgumentException> ARGUMENT = IllegalArgumentException.class;
    private static final Bytes BROKEN = Blocks.GOOD.flipped(1, 0);

    public static void main(String[] args) {
        firstInTheHeading();
        whereItSaysElse();
        changesNothing();
        changesNothingOfAClosedOne();
        openCloses();
        CHECK.end();
    }

    private static void firstInTheHeading() {
        CHECK.sentence("Of several exceptions that fit, a call throws the one that stands first in"
                + " its heading");
        SortedRun closed = Bytes.load(Blocks.between(BROKEN));
        CHECK.refuses("get: closed, not right", CLOSED, () -> closed.get(5));
        CHECK.refuses("get: closed, no block", CLOSED, () -> closed.get(-11));
        CHECK.refuses("get: closed, no key", CLOSED, () -> closed.get(41));
        CHECK.refuses("entries: closed, no block", CLOSED, () -> closed.entries(3));
        CHECK.refuses("entries: closed, no block below 0", CLOSED, () -> closed.entries(-1));
        CHECK.refuses("entries: closed, not right", CLOSED, () -> closed.entries(1));
        CHECK.refuses("key: closed, no block", CLOSED, () -> closed.key(3, 0));
        CHECK.refuses("key: closed, no block below 0", CLOSED, () -> closed.key(-1, -1));
        CHECK.refuses("key: closed, not right", CLOSED, () -> closed.key(1, 0));
        CHECK.refuses("key: closed, no entry", CLOSED, () -> closed.key(0, 1));
        closed.open();
        CHECK.refuses("get: not right, no key", NOT_RIGHT, () -> closed.get(39));
        CHECK.refuses("key: no block, no entry", NOT_THERE, () -> closed.key(3, -1));
    }

    private static void whereItSaysElse() {
        CHECK.sentence("(where it says nothing else)");
        SortedRun full = new SortedRun();
        for (int i = 0; i < 300; i++) {
            full.add(i, 0);
        }
        CHECK.refuses("add: full, and not above", IllegalStateException.class,
                () -> full.add(299, 0));
        SortedRun broken = Bytes.opened(Blocks.between(BROKEN));
        CHECK.refuses("key: not right, no entry", NOT_RIGHT, () -> broken.key(1, 2));
        CHECK.refuses("key: not right, no entry below 0", NOT_RIGHT, () -> broken.key(1, -1));
    }

    private static void changesNothing() {
        CHECK.sentence("one that throws changes nothing");
        leaves("add: not above", ARGUMENT, run -> run.add(9, 5));
        leaves("add: far below", ARGUMENT, run -> run.add(Integer.MIN_VALUE, 5));
        leaves("at: behind the last", NOT_THERE, run -> run.at(run.size()));
        leaves("at: before the first", NOT_THERE, run -> run.at(-1));
        leaves("damage: behind the last", NOT_THERE, run -> run.damage(run.size(), 1));
        leaves("damage: before the first", NOT_THERE, run -> run.damage(-1, 1));
        leaves("cut: too many", ARGUMENT, run -> run.cut(run.size() + 1));
        leaves("cut: below 0", ARGUMENT, run -> run.cut(-1));
        leaves("get: not right", NOT_RIGHT, run -> run.get(5));
        leaves("get: no block", NO_KEY, run -> run.get(-11));
        leaves("get: no key", NO_KEY, run -> run.get(41));
        leaves("entries: no block", NOT_THERE, run -> run.entries(3));
        leaves("entries: not right", NOT_RIGHT, run -> run.entries(1));
        leaves("key: no block", NOT_THERE, run -> run.key(-1, 0));
        leaves("key: not right", NOT_RIGHT, run -> run.key(1, 0));
        leaves("key: no entry", NOT_THERE, run -> run.key(0, 1));
        fullStaysFull();
    }

    private interface Call {
        void on(SortedRun run);
    }

    /** THE TABLE is open and two ENTRIES wait, before the call and after it. */
    private static void leaves(String what, Class<? extends RuntimeException> due, Call call) {
        byte[] table = Blocks.between(BROKEN);
        SortedRun run = Bytes.opened(table);
        run.add(8, 80);
        run.add(9, 90);
        CHECK.refuses(what, due, () -> call.on(run));
        CHECK.answers(what + ": open still", 7, () -> run.get(-10));
        CHECK.answers(what + ": its last block", 9, () -> run.get(40));
        CHECK.refuses(what + ": its blocks", NOT_THERE, () -> run.entries(3));
        CHECK.hasBytes(what + ": its bytes", run, table);
        CHECK.refuses(what + ": the key before", ARGUMENT, () -> run.add(9, 0));
        CHECK.answers(what + ": two wait", 3, () -> run.add(10, 100));
        run.write();
        CHECK.hasBytes(what + ": what waited", run,
                Bytes.oneBlock(8, Bytes.numbers(16, 160, 0, 180, 0, 200).summed()));
    }

    private static void fullStaysFull() {
        SortedRun run = new SortedRun();
        run.add(1, 10);
        run.write();
        run.open();
        for (int i = 0; i < 300; i++) {
            run.add(i, i);
        }
        CHECK.refuses("add: full", IllegalStateException.class, () -> run.add(300, 5));
        CHECK.refuses("add: full still", IllegalStateException.class, () -> run.add(301, 5));
        CHECK.answers("add: the table is open still", 10, () -> run.get(1));
        run.write();
        CHECK.answers("add: 300 waited", 38, run::open);
        CHECK.answers("add: the last that waited", 299, () -> run.key(37, 3));
        CHECK.answers("add: no more", 4, () -> run.entries(37));
    }

    private static void changesNothingOfAClosedOne() {
        CHECK.sentence("one that throws changes nothing");
        leavesClosed("get", run -> run.get(5));
        leavesClosed("entries", run -> run.entries(0));
        leavesClosed("key", run -> run.key(0, 0));
    }

    private static void leavesClosed(String what, Call call) {
        byte[] table = Blocks.between(Blocks.GOOD);
        SortedRun run = Bytes.load(table);
        run.add(8, 80);
        CHECK.refuses(what, CLOSED, () -> call.on(run));
        CHECK.refuses(what + ": closed still", CLOSED, () -> call.on(run));
        CHECK.hasBytes(what + ": its bytes", run, table);
        CHECK.answers(what + ": one waits", 2, () -> run.add(9, 90));
        CHECK.answers(what + ": it can be opened", 3, run::open);
    }

    private static void openCloses() {
        CHECK.sentence("but open: THE TABLE is closed then");
        byte[] table = Blocks.between(Blocks.GOOD);
        SortedRun run = Bytes.opened(table);
        run.add(8, 80);
        int last = table.length - 1;
        int was = run.damage(last, 99);
        CHECK.refuses("open", NOT_RIGHT, run::open);
        CHECK.refuses("get", CLOSED, () -> run.get(5));
        CHECK.refuses("entries", CLOSED, () -> run.entries(0));
        CHECK.refuses("key", CLOSED, () -> run.key(0, 0));
        CHECK.refuses("open again", NOT_RIGHT, run::open);
        table[last] = 99;
        CHECK.hasBytes("its bytes", run, table);
        CHECK.answers("one waits still", 2, () -> run.add(9, 90));
        run.damage(last, was);
        CHECK.refuses("mended, but not opened", CLOSED, () -> run.get(5));
        CHECK.answers("opened", 3, run::open);
        CHECK.answers("read", 1, () -> run.get(5));
    }
}
