/** Promise 4: at. */
final class AtTest {
    private static final Check CHECK = new Check();

    public static void main(String[] args) {
        everyByte();
        fromZeroTo255();
        noSuchByte();
        noSuchByteOfACutTable();
        looksOnly();
        CHECK.end();
    }

    private static void everyByte() {
        CHECK.sentence("Byte i of THE TABLE");
        byte[] table = Blocks.between(Blocks.GOOD);
        SortedRun run = Bytes.load(table);
        CHECK.answers("the first", 19, () -> run.at(0));
        CHECK.answers("the last", 7, () -> run.at(table.length - 1));
        for (int i = table.length - 1; i >= 0; i--) {
            int at = i;
            CHECK.answers("byte " + i, table[i] & 255, () -> run.at(at));
        }
        run.add(1, 1);
        CHECK.answers("not of what waits", 19, () -> run.at(0));
        run.write();
        CHECK.answers("of what was written last", 2, () -> run.at(0));
    }

    private static void fromZeroTo255() {
        CHECK.sentence("(0 to 255)");
        SortedRun run = new SortedRun();
        for (int v = 0; v < 200; v++) {
            int due = v < 100 ? v : v + 56;
            run.damage(3, due);
            CHECK.answers("damaged to " + due, due, () -> run.at(3));
        }
        SortedRun written = new SortedRun();
        written.add(0, Long.MIN_VALUE);
        written.write();
        CHECK.answers("written as 255", 255, () -> written.at(1));
        CHECK.answers("written as 0", 0, () -> written.at(0));
    }

    private static void noSuchByte() {
        CHECK.sentence("IndexOutOfBoundsException if there is none");
        SortedRun empty = new SortedRun();
        CHECK.answers("the last of nine", 1, () -> empty.at(8));
        refuses("nine", empty, 9);
        SortedRun run = new SortedRun();
        run.add(5, 1);
        run.add(6, 2);
        run.write();
        CHECK.answers("the last", 3, () -> run.at(18));
        for (int i : new int[] {19, 20, 4888, 4889, Integer.MAX_VALUE, -1, -19, Integer.MIN_VALUE}) {
            refuses("19 bytes", run, i);
        }
        run.write();
        refuses("written shorter", run, 9);
        refuses("written shorter", run, 18);
    }

    private static void noSuchByteOfACutTable() {
        CHECK.sentence("IndexOutOfBoundsException if there is none");
        SortedRun run = new SortedRun();
        run.cut(5);
        CHECK.answers("the last one left", 210, () -> run.at(4));
        refuses("cut to 5", run, 5);
        refuses("cut to 5", run, 8);
        run.cut(1);
        CHECK.answers("the only one", 0, () -> run.at(0));
        refuses("cut to 1", run, 1);
        run.cut(0);
        refuses("cut to nothing", run, 0);
        refuses("cut to nothing", run, -1);
    }

    private static void refuses(String what, SortedRun run, int i) {
        CHECK.refuses(what + ": at(" + i + ")", IndexOutOfBoundsException.class, () -> run.at(i));
    }

    private static void looksOnly() {
        CHECK.sentence("till it is written, damaged or cut");
        SortedRun run = Bytes.opened(Blocks.between(Blocks.GOOD));
        CHECK.answers("at", 19, () -> run.at(0));
        CHECK.answers("open still", 1, () -> run.get(5));
        CHECK.answers("the same again", 19, () -> run.at(0));
    }
}
