import java.util.Arrays;

/** Promise 6: cut. */
final class CutTest {
    private static final Check CHECK = new Check();

    public static void main(String[] args) {
        onlyTheFirst();
        notSoMany();
        belowZero();
        closes();
        writtenAnew();
        CHECK.end();
    }

    private static SortedRun opened() {
        return Bytes.opened(Bytes.oneBlock(5, Blocks.GOOD));
    }

    private static void onlyTheFirst() {
        CHECK.sentence("THE TABLE has only its first n bytes");
        byte[] table = Bytes.oneBlock(5, Blocks.GOOD);
        for (int n = table.length; n >= 0; n--) {
            int left = n;
            SortedRun run = opened();
            CHECK.accepts("cut(" + n + ")", () -> run.cut(left));
            CHECK.hasBytes("cut(" + n + ")", run, Arrays.copyOf(table, n));
            CHECK.refuses("cut(" + n + "): no more", IndexOutOfBoundsException.class,
                    () -> run.at(left));
        }
        SortedRun run = opened();
        for (int n = table.length - 1; n >= 0; n--) {
            run.cut(n);
            CHECK.answers("by one byte, " + n + " left", n, run::size);
        }
        CHECK.accepts("nothing of nothing", () -> run.cut(0));
        // What stood in front of the bytes that were cut can be a table of its own.
        byte[] empty = Bytes.table(Bytes.numbers(0));
        SortedRun inside = Bytes.load(Bytes.of(0, 141, 239, 2, 210, 0, 0, 0, 1, 5, 5).array());
        CHECK.refuses("with two bytes behind it", ArithmeticException.class, inside::open);
        inside.cut(9);
        CHECK.answers("without them", 0, inside::open);
        CHECK.hasBytes("without them", inside, empty);
    }

    private static void notSoMany() {
        CHECK.sentence("IllegalArgumentException if there are not so many");
        SortedRun run = opened();
        for (int n : new int[] {20, 21, 4889, Integer.MAX_VALUE}) {
            refuses("19 bytes", run, n);
        }
        CHECK.answers("open still", 1, () -> run.get(5));
        CHECK.answers("as long", 19, run::size);
        CHECK.accepts("all of them", () -> run.cut(19));
        run.cut(18);
        refuses("18 bytes", run, 19);
        run.cut(1);
        refuses("one byte", run, 2);
        run.cut(0);
        refuses("no byte", run, 1);
        CHECK.answers("none came back", 0, run::size);
        SortedRun nine = new SortedRun();
        refuses("nine bytes", nine, 10);
        CHECK.accepts("all nine", () -> nine.cut(9));
    }

    private static void belowZero() {
        CHECK.sentence("or n is below 0");
        SortedRun run = opened();
        for (int n : new int[] {-1, -2, -19, Integer.MIN_VALUE}) {
            refuses("19 bytes", run, n);
        }
        CHECK.answers("open still", 1, () -> run.get(5));
        CHECK.answers("as long", 19, run::size);
        run.cut(0);
        refuses("no byte", run, -1);
        CHECK.answers("none still", 0, run::size);
    }

    private static void refuses(String what, SortedRun run, int n) {
        CHECK.refuses(what + ": cut(" + n + ")", IllegalArgumentException.class, () -> run.cut(n));
    }

    private static void closes() {
        CHECK.sentence("till it is written, damaged or cut");
        SortedRun run = opened();
        run.cut(19);
        CHECK.refuses("a cut of nothing: get", IllegalStateException.class, () -> run.get(5));
        CHECK.refuses("entries", IllegalStateException.class, () -> run.entries(0));
        CHECK.refuses("key", IllegalStateException.class, () -> run.key(0, 0));
        CHECK.answers("all is there", 1, run::open);
        run.cut(18);
        CHECK.refuses("a cut of one byte", IllegalStateException.class, () -> run.get(5));
        CHECK.refuses("open", ArithmeticException.class, run::open);
    }

    private static void writtenAnew() {
        CHECK.sentence("THE TABLE has only its first n bytes");
        SortedRun run = opened();
        run.add(4, 7);
        run.cut(0);
        CHECK.answers("what waits is as it was", 2, () -> run.add(5, 1));
        CHECK.answers("written anew", 19, run::write);
        CHECK.answers("whole again", 1, run::open);
        CHECK.answers("read", 7, () -> run.get(4));
    }
}
