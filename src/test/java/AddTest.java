/** Promise 2: add. */
final class AddTest {
    private static final Check CHECK = new Check();

    public static void main(String[] args) {
        oneMoreWaits();
        onlyWaits();
        keysMustRise();
        keysFarApart();
        theOneBefore();
        threeHundredMayWait();
        CHECK.end();
    }

    private static void refusesKey(SortedRun run, int key) {
        CHECK.refuses("add(" + key + ")", IllegalArgumentException.class, () -> run.add(key, 0));
    }

    private static void oneMoreWaits() {
        CHECK.sentence("One ENTRY more waits to be written: how many");
        SortedRun run = new SortedRun();
        for (int i = 0; i < 300; i++) {
            int key = i - 150;
            CHECK.answers("add " + i, i + 1, () -> run.add(key, Long.MAX_VALUE - key));
        }
        run.write();
        run.open();
        CHECK.answers("the first", Long.MIN_VALUE + 149, () -> run.get(-150));
        CHECK.answers("the last", Long.MAX_VALUE - 149, () -> run.get(149));
        CHECK.answers("of the next ones the first", 1, () -> run.add(0, 0));
    }

    private static void onlyWaits() {
        CHECK.sentence("waits to be written");
        SortedRun run = new SortedRun();
        run.add(4, 40);
        run.write();
        run.open();
        CHECK.answers("add", 1, () -> run.add(9, 90));
        CHECK.answers("the table is open still", 40, () -> run.get(4));
        CHECK.answers("it has no more entries", 1, () -> run.entries(0));
        CHECK.hasBytes("it has the same bytes", run,
                Bytes.oneBlock(4, Bytes.numbers(8, 80).summed()));
        CHECK.answers("no key of the table is before", 2, () -> run.add(10, 1));
        run.damage(0, 1);
        CHECK.answers("damage takes none away", 3, () -> run.add(11, 2));
        run.cut(0);
        CHECK.answers("nor does cut", 4, () -> run.add(12, 3));
        CHECK.refuses("open", ArithmeticException.class, run::open);
        CHECK.answers("nor an open that throws", 5, () -> run.add(13, 4));
        run.write();
        CHECK.hasBytes("all are written", run,
                Bytes.oneBlock(9, Bytes.numbers(18, 180, 0, 2, 0, 4, 0, 6, 0, 8).summed()));
    }

    private static void keysMustRise() {
        CHECK.sentence("IllegalArgumentException if its KEY is not above the one before");
        SortedRun run = new SortedRun();
        CHECK.answers("the lowest key", 1, () -> run.add(Integer.MIN_VALUE, 5));
        refusesKey(run, Integer.MIN_VALUE);
        CHECK.answers("one above", 2, () -> run.add(Integer.MIN_VALUE + 1, 5));
        refusesKey(run, Integer.MIN_VALUE + 1);
        refusesKey(run, Integer.MIN_VALUE);
        CHECK.answers("-1", 3, () -> run.add(-1, 5));
        refusesKey(run, -1);
        refusesKey(run, -2);
        CHECK.answers("0 is above -1", 4, () -> run.add(0, Long.MIN_VALUE));
        refusesKey(run, -1);
        refusesKey(run, 0);
        CHECK.answers("1", 5, () -> run.add(1, Long.MAX_VALUE));
        CHECK.answers("one below the highest", 6, () -> run.add(Integer.MAX_VALUE - 1, 0));
        refusesKey(run, Integer.MAX_VALUE - 1);
        CHECK.answers("the highest key", 7, () -> run.add(Integer.MAX_VALUE, 0));
        refusesKey(run, Integer.MAX_VALUE);
        refusesKey(run, Integer.MIN_VALUE);
        refusesKey(run, 0);
        refusesKey(run, -1);
    }

    /** So far that the difference of the two is no int. */
    private static void keysFarApart() {
        CHECK.sentence("IllegalArgumentException if its KEY is not above the one before");
        SortedRun rising = new SortedRun();
        rising.add(-2_000_000_000, 0);
        CHECK.answers("far above", 2, () -> rising.add(2_000_000_000, 0));
        refusesKey(rising, -2_000_000_000);
        refusesKey(rising, Integer.MIN_VALUE);
        SortedRun edges = new SortedRun();
        edges.add(Integer.MIN_VALUE, 0);
        CHECK.answers("the highest above the lowest", 2, () -> edges.add(Integer.MAX_VALUE, 0));
        SortedRun highest = new SortedRun();
        CHECK.answers("the highest first", 1, () -> highest.add(Integer.MAX_VALUE, 0));
        refusesKey(highest, Integer.MIN_VALUE);
    }

    private static void theOneBefore() {
        CHECK.sentence("the one before");
        SortedRun run = new SortedRun();
        run.add(5, 0);
        refusesKey(run, 3);
        refusesKey(run, 4);
        refusesKey(run, 5);
        CHECK.answers("what was refused is not before", 2, () -> run.add(6, 0));
        run.write();
        CHECK.answers("nor is what was written", 1, () -> run.add(-7, 0));
        refusesKey(run, -7);
        CHECK.answers("but this one", 2, () -> run.add(-6, 0));
        run.write();
        run.write();
        CHECK.answers("the lowest, as none is before", 1, () -> run.add(Integer.MIN_VALUE, 0));
    }

    private static void threeHundredMayWait() {
        CHECK.sentence("IllegalStateException, first, if 300 wait");
        SortedRun run = new SortedRun();
        for (int i = 0; i < 299; i++) {
            run.add(i, i);
        }
        refusesKey(run, 298);
        CHECK.answers("the 300th", 300, () -> run.add(299, 299));
        for (int key : new int[] {300, Integer.MAX_VALUE, 299, 298, 0, -1, Integer.MIN_VALUE}) {
            CHECK.refuses("the 301st, " + key, IllegalStateException.class, () -> run.add(key, 0));
        }
        run.open();
        CHECK.refuses("open writes none", IllegalStateException.class, () -> run.add(300, 0));
        run.cut(0);
        CHECK.refuses("nor does cut", IllegalStateException.class, () -> run.add(300, 0));
        run.write();
        CHECK.answers("after write there is room", 1, () -> run.add(0, 0));
        run.open();
        CHECK.answers("the 300th is there", 299, () -> run.get(299));
        CHECK.answers("the last block", 4, () -> run.entries(37));
    }
}
