/** Promises 1 and 11: a new object and its size. */
final class NewObjectTest {
    public static void main(String[] args) {
        Check check = new Check();
        byte[] empty = Bytes.of(0, 141, 239, 2, 210, 0, 0, 0, 1).array();
        check.hasBytes("new", new SortedRun(), empty);
        check.hasBytes("new, as the library sums it", new SortedRun(),
                Bytes.table(Bytes.numbers(0)));

        SortedRun closed = new SortedRun();
        check.refuses("closed: get", IllegalStateException.class, () -> closed.get(0));
        check.refuses("closed: entries", IllegalStateException.class, () -> closed.entries(0));
        check.refuses("closed: key", IllegalStateException.class, () -> closed.key(0, 0));

        SortedRun idle = new SortedRun();
        check.answers("nothing waits: write", 9, idle::write);
        check.hasBytes("nothing waits", idle, empty);
        check.answers("nothing waits: the first add", 1, () -> idle.add(Integer.MIN_VALUE, 0));

        SortedRun one = new SortedRun();
        SortedRun other = new SortedRun();
        one.add(1, 1);
        one.write();
        check.hasBytes("objects share nothing", other, empty);
        check.answers("objects share nothing: add", 1, () -> other.add(0, 0));

        check.answers("size: not of what waits", 9, other::size);
        other.write();
        check.answers("size: written", 2 + 4 + 3 + 4 + 4, other::size);
        other.damage(0, 1);
        check.answers("size: damaged", 17, other::size);
        other.cut(5);
        check.answers("size: cut", 5, other::size);
        other.cut(0);
        check.answers("size: nothing left", 0, other::size);
        check.end();
    }
}
