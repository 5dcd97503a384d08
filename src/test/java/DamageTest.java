/** Promise 5: damage. */
final class DamageTest {
    private static final Check CHECK = new Check();

    public static void main(String[] args) {
        lowestEightBits();
        whatItWas();
        oneByteOnly();
        noSuchByte();
        closes();
        mended();
        CHECK.end();
    }

    private static SortedRun opened() {
        SortedRun run = new SortedRun();
        run.add(5, 1);
        run.add(6, 2);
        run.write();
        run.open();
        return run;
    }

    private static void lowestEightBits() {
        CHECK.sentence("Byte i of THE TABLE is v (its lowest 8 bits)");
        SortedRun run = opened();
        int[] given = {0, 1, 127, 128, 255, 256, 257, 511, 456, -1, -128, -129, -256, -255,
            Integer.MIN_VALUE, Integer.MAX_VALUE, 0x12345678};
        int[] due = {0, 1, 127, 128, 255, 0, 1, 255, 200, 255, 128, 127, 0, 1, 0, 255, 0x78};
        for (int i = 0; i < given.length; i++) {
            int v = given[i];
            run.damage(0, v);
            CHECK.answers("of " + v, due[i], () -> run.at(0));
        }
    }

    private static void whatItWas() {
        CHECK.sentence("what it was");
        SortedRun run = opened();
        CHECK.answers("as written", 10, () -> run.damage(0, 256 + 200));
        CHECK.answers("above 127", 200, () -> run.damage(0, -1));
        CHECK.answers("255", 255, () -> run.damage(0, 0));
        CHECK.answers("0", 0, () -> run.damage(0, 0));
        CHECK.answers("0 again", 0, () -> run.damage(0, 128));
        CHECK.answers("128", 128, () -> run.damage(0, 10));
        CHECK.answers("the last", 3, () -> run.damage(18, 128));
        CHECK.answers("the last again", 128, () -> run.damage(18, 3));
        CHECK.answers("as it was at first", 1, run::open);
    }

    private static void oneByteOnly() {
        CHECK.sentence("Byte i of THE TABLE is v");
        SortedRun run = opened();
        byte[] table = Bytes.oneBlock(5, Blocks.GOOD);
        for (int i = 0; i < table.length; i++) {
            int at = i;
            CHECK.answers("damage(" + i + ")", table[i] & 255, () -> run.damage(at, table[at] + 5));
            table[i] += 5;
            CHECK.hasBytes("after damage(" + i + ")", run, table);
        }
        SortedRun waits = opened();
        waits.add(1, 1);
        waits.damage(0, 9);
        CHECK.answers("what waits is as it was", 2, () -> waits.add(2, 2));
    }

    private static void noSuchByte() {
        CHECK.sentence("IndexOutOfBoundsException if there is none");
        SortedRun run = opened();
        for (int i : new int[] {19, 20, 4888, 4889, Integer.MAX_VALUE, -1, -19, Integer.MIN_VALUE}) {
            refuses("19 bytes", run, i);
        }
        CHECK.answers("open still", 1, () -> run.get(5));
        CHECK.hasBytes("no byte is another", run, Bytes.oneBlock(5, Blocks.GOOD));
        CHECK.answers("the last is there", 3, () -> run.damage(18, 3));
        run.cut(10);
        CHECK.answers("the last one left", 8, () -> run.damage(9, 8));
        refuses("cut to 10", run, 10);
        refuses("cut to 10", run, 18);
        run.cut(0);
        refuses("cut to nothing", run, 0);
        CHECK.answers("no byte is made", 0, run::size);
        run.write();
        refuses("nine bytes", run, 9);
        CHECK.answers("the last of nine", 1, () -> run.damage(8, 1));
    }

    private static void refuses(String what, SortedRun run, int i) {
        CHECK.refuses(what + ": damage(" + i + ")", IndexOutOfBoundsException.class,
                () -> run.damage(i, 77));
    }

    private static void closes() {
        CHECK.sentence("till it is written, damaged");
        SortedRun run = opened();
        CHECK.answers("by the same byte", 10, () -> run.damage(0, 10));
        CHECK.refuses("get", IllegalStateException.class, () -> run.get(5));
        CHECK.refuses("entries", IllegalStateException.class, () -> run.entries(0));
        CHECK.refuses("key", IllegalStateException.class, () -> run.key(0, 0));
        CHECK.answers("opened again", 1, run::open);
        CHECK.answers("as before", 1, () -> run.get(5));
        run.damage(18, 3);
        CHECK.refuses("by the last byte", IllegalStateException.class, () -> run.get(5));
    }

    private static void mended() {
        CHECK.sentence("Byte i of THE TABLE is v");
        SortedRun run = opened();
        run.damage(0, 11);
        CHECK.answers("open looks at no block", 1, run::open);
        CHECK.refuses("the block", ArithmeticException.class, () -> run.get(5));
        run.damage(0, 10);
        run.open();
        CHECK.answers("mended", 1, () -> run.get(5));
    }
}
