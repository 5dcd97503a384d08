/** Promise 11: size. */
final class SizeTest {
    private static final Check CHECK = new Check();

    public static void main(String[] args) {
        CHECK.sentence("How many bytes THE TABLE has");
        SortedRun run = new SortedRun();
        CHECK.answers("new", 9, run::size);
        run.add(0, 0);
        CHECK.answers("not of what waits", 9, run::size);
        run.write();
        CHECK.answers("written", 2 + 4 + 3 + 4 + 4, run::size);
        run.open();
        CHECK.answers("opened", 17, run::size);
        CHECK.answers("open still", 0, () -> run.get(0));
        run.damage(0, 1);
        CHECK.answers("damaged", 17, run::size);
        run.cut(17);
        CHECK.answers("cut at its end", 17, run::size);
        run.cut(5);
        CHECK.answers("cut", 5, run::size);
        CHECK.refuses("open", ArithmeticException.class, run::open);
        CHECK.answers("not opened", 5, run::size);
        run.cut(0);
        CHECK.answers("nothing left", 0, run::size);
        run.write();
        CHECK.answers("written anew", 9, run::size);
        everySize();
        CHECK.end();
    }

    private static void everySize() {
        for (int count = 0; count <= 300; count += 20) {
            SortedRun run = new SortedRun();
            for (int i = 0; i < count; i++) {
                run.add(i * 7_000_000, Long.MIN_VALUE + i);
            }
            int size = run.write();
            CHECK.answers("of " + count, size, run::size);
            CHECK.refuses("behind the last of " + count, IndexOutOfBoundsException.class,
                    () -> run.at(size));
            CHECK.accepts("the last of " + count, () -> run.at(size - 1));
        }
    }
}
