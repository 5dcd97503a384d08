/** Promises 4, 5, 6 and 11: at, damage, cut and size. */
final class DamageTest {
    private static final Check CHECK = new Check();
    private static final int[] FAR = {-1, Integer.MIN_VALUE, Integer.MAX_VALUE};

    public static void main(String[] args) {
        bytesThatAreNotThere();
        lowestEightBits();
        damageCloses();
        cutting();
        CHECK.end();
    }

    private static SortedRun opened() {
        SortedRun run = new SortedRun();
        run.add(5, 1);
        run.add(6, 2);
        run.write();
        run.open();
        return run;
    }

    private static void bytesThatAreNotThere() {
        SortedRun run = opened();
        for (int i : FAR) {
            refusesByte(run, i);
        }
        refusesByte(run, 19);
        CHECK.answers("what threw changed nothing", 1, () -> run.get(5));
        CHECK.answers("the last byte", 3, () -> run.at(18));
        CHECK.answers("at leaves it open", 2, () -> run.get(6));
        run.cut(10);
        refusesByte(run, 10);
        CHECK.answers("the last one left", 8, () -> run.at(9));
        run.cut(0);
        refusesByte(run, 0);
    }

    private static void refusesByte(SortedRun run, int i) {
        CHECK.refuses("at(" + i + ")", IndexOutOfBoundsException.class, () -> run.at(i));
        CHECK.refuses("damage(" + i + ")", IndexOutOfBoundsException.class,
                () -> run.damage(i, 77));
    }

    private static void lowestEightBits() {
        SortedRun run = opened();
        CHECK.answers("was", 10, () -> run.damage(0, 256 + 200));
        CHECK.answers("is", 200, () -> run.at(0));
        CHECK.answers("was above 127", 200, () -> run.damage(0, -1));
        CHECK.answers("of -1", 255, () -> run.at(0));
        CHECK.answers("was 255", 255, () -> run.damage(0, Integer.MIN_VALUE));
        CHECK.answers("of the lowest int", 0, () -> run.at(0));
        CHECK.answers("the byte behind is as it was", 2, () -> run.at(1));
        CHECK.answers("the last", 3, () -> run.damage(18, 128));
        CHECK.answers("the last is", 128, () -> run.at(18));
        CHECK.answers("size()", 19, run::size);
    }

    private static void damageCloses() {
        SortedRun run = opened();
        CHECK.answers("the same byte", 10, () -> run.damage(0, 10));
        CHECK.refuses("closed", IllegalStateException.class, () -> run.get(5));
        CHECK.answers("opened again", 1, run::open);
        CHECK.answers("as before", 1, () -> run.get(5));
        run.damage(0, 11);
        CHECK.answers("open looks at no block", 1, run::open);
        CHECK.refuses("the block", ArithmeticException.class, () -> run.get(5));
        run.damage(0, 10);
        run.open();
        CHECK.answers("mended", 1, () -> run.get(5));
        run.add(1, 1);
        run.damage(0, 9);
        CHECK.answers("what waits is as it was", 2, () -> run.add(2, 2));
    }

    private static void cutting() {
        SortedRun run = opened();
        for (int n : FAR) {
            CHECK.refuses("cut(" + n + ")", IllegalArgumentException.class, () -> run.cut(n));
        }
        CHECK.refuses("one too many", IllegalArgumentException.class, () -> run.cut(20));
        CHECK.answers("what threw left it open", 1, () -> run.get(5));
        CHECK.answers("and as long", 19, run::size);
        run.cut(19);
        CHECK.refuses("a cut of nothing closes", IllegalStateException.class, () -> run.get(5));
        CHECK.answers("and changes nothing", 1, run::open);
        run.cut(18);
        CHECK.refuses("cut: open", ArithmeticException.class, run::open);
        CHECK.refuses("what is gone", IllegalArgumentException.class, () -> run.cut(19));
        run.cut(0);
        CHECK.answers("nothing left", 0, run::size);
        run.cut(0);
        CHECK.refuses("no foot", ArithmeticException.class, run::open);
        CHECK.refuses("no byte", IllegalArgumentException.class, () -> run.cut(1));
        run.add(5, 1);
        CHECK.answers("written anew", 17, run::write);
        CHECK.answers("whole again", 1, run::open);
    }
}
