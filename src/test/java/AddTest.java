/** Promise 2: add. */
final class AddTest {
    private static final Check CHECK = new Check();

    public static void main(String[] args) {
        keysMustRise();
        threeHundredMayWait();
        addingLeavesTheTableAlone();
        CHECK.end();
    }

    private static void keysMustRise() {
        SortedRun run = new SortedRun();
        CHECK.answers("the lowest key", 1, () -> run.add(Integer.MIN_VALUE, 5));
        refusesKey(run, Integer.MIN_VALUE);
        CHECK.answers("above it", 2, () -> run.add(-1, 5));
        refusesKey(run, -1);
        refusesKey(run, -2);
        refusesKey(run, Integer.MIN_VALUE);
        CHECK.answers("0 is above -1", 3, () -> run.add(0, Long.MIN_VALUE));
        CHECK.answers("the highest key", 4, () -> run.add(Integer.MAX_VALUE, Long.MAX_VALUE));
        refusesKey(run, Integer.MAX_VALUE);
        refusesKey(run, Integer.MIN_VALUE);
        run.write();
        CHECK.answers("after write any key is first", 1, () -> run.add(-7, 0));
        refusesKey(run, -7);
    }

    private static void refusesKey(SortedRun run, int key) {
        CHECK.refuses("add(" + key + ")", IllegalArgumentException.class, () -> run.add(key, 0));
    }

    private static void threeHundredMayWait() {
        SortedRun run = new SortedRun();
        for (int i = 0; i < 300; i++) {
            int key = i;
            CHECK.answers("add " + i, i + 1, () -> run.add(key, key));
        }
        CHECK.refuses("the 301st", IllegalStateException.class, () -> run.add(300, 0));
        CHECK.refuses("the 301st, too low", IllegalStateException.class, () -> run.add(5, 0));
        run.write();
        run.open();
        CHECK.answers("the 300th is there", 299, () -> run.get(299));
        CHECK.answers("the last block", 4, () -> run.entries(37));
        CHECK.answers("room again", 1, () -> run.add(0, 0));
    }

    private static void addingLeavesTheTableAlone() {
        SortedRun run = new SortedRun();
        run.add(4, 40);
        run.write();
        run.open();
        run.add(9, 90);
        CHECK.answers("still open", 40, () -> run.get(4));
        CHECK.refuses("a low key", IllegalArgumentException.class, () -> run.add(9, 91));
        CHECK.answers("open still", 1, () -> run.entries(0));
        CHECK.hasBytes("add changes no byte", run,
                Bytes.oneBlock(4, Bytes.numbers(8, 80).summed()));
        run.write();
        run.open();
        CHECK.answers("what was refused changed nothing", 90, () -> run.get(9));
        CHECK.answers("just the one", 1, () -> run.entries(0));
    }
}
