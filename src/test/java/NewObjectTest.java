/** Promise 1: a new object. */
final class NewObjectTest {
    private static final Check CHECK = new Check();

    public static void main(String[] args) {
        tableOfNoEntries();
        closed();
        nothingWaits();
        objectsShareNothing();
        CHECK.end();
    }

    private static byte[] empty() {
        return Bytes.of(0, 141, 239, 2, 210, 0, 0, 0, 1).array();
    }

    private static void tableOfNoEntries() {
        CHECK.sentence("THE TABLE is that of no ENTRIES (nine bytes: an INDEX of one, its SUM,"
                + " THE FOOT)");
        CHECK.hasBytes("new", new SortedRun(), empty());
        CHECK.hasBytes("as the library sums it", new SortedRun(), Bytes.table(Bytes.numbers(0)));
        SortedRun run = new SortedRun();
        CHECK.refuses("no tenth byte", IndexOutOfBoundsException.class, () -> run.at(9));
        CHECK.answers("no block", 0, run::open);
    }

    private static void closed() {
        CHECK.sentence("closed");
        CHECK.refuses("get", IllegalStateException.class, () -> new SortedRun().get(0));
        CHECK.refuses("entries", IllegalStateException.class, () -> new SortedRun().entries(0));
        CHECK.refuses("key", IllegalStateException.class, () -> new SortedRun().key(0, 0));
    }

    private static void nothingWaits() {
        CHECK.sentence("nothing is waiting");
        SortedRun written = new SortedRun();
        CHECK.answers("write", 9, written::write);
        CHECK.hasBytes("written", written, empty());
        CHECK.answers("the first add", 1, () -> new SortedRun().add(5, 0));
        CHECK.answers("no key is before", 1, () -> new SortedRun().add(Integer.MIN_VALUE, 0));
    }

    private static void objectsShareNothing() {
        CHECK.sentence("A new object");
        SortedRun one = new SortedRun();
        SortedRun other = new SortedRun();
        one.add(1, 1);
        one.write();
        one.open();
        one.add(2, 2);
        CHECK.hasBytes("the table of another", other, empty());
        CHECK.refuses("another is closed", IllegalStateException.class, () -> other.get(1));
        CHECK.answers("another's first", 1, () -> other.add(0, 0));
        SortedRun later = new SortedRun();
        CHECK.hasBytes("made later", later, empty());
        CHECK.answers("made later: its first", 1, () -> later.add(0, 0));
        CHECK.answers("the one is as it was", 1, () -> one.get(1));
    }
}
