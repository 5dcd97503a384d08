/** "What it is": for how many calls an object is used. */
final class UseTest {
    private static final Check CHECK = new Check();
    private static final int CALLS = 512;

    public static void main(String[] args) {
        CHECK.sentence("An object is used for at most 512 calls after it has been made");
        addsAndGets();
        writesAndOpens();
        damages();
        refusals();
        CHECK.end();
    }

    private static void addsAndGets() {
        SortedRun run = new SortedRun();
        for (int i = 0; i < 300; i++) {
            run.add(i, -i);
        }
        run.write();
        run.open();
        for (int call = 303; call <= CALLS; call++) {
            int key = CALLS - call;
            CHECK.answers("call " + call + ": get(" + key + ")", -key, () -> run.get(key));
        }
    }

    private static void writesAndOpens() {
        SortedRun run = new SortedRun();
        for (int call = 4; call <= CALLS; call += 4) {
            int key = 1000 - call;
            CHECK.answers("call " + (call - 3) + ": add", 1, () -> run.add(key, 1));
            CHECK.answers("call " + (call - 2) + ": write", 19, run::write);
            CHECK.answers("call " + (call - 1) + ": open", 1, run::open);
            CHECK.answers("call " + call + ": key", key, () -> run.key(0, 0));
        }
    }

    private static void damages() {
        SortedRun run = new SortedRun();
        run.add(5, 1);
        run.write();
        for (int call = 3; call <= CALLS - 2; call++) {
            int v = CALLS - 2 - call;
            int was = call == 3 ? 10 : v + 1;
            CHECK.answers("call " + call + ": damage", was & 255, () -> run.damage(0, v));
        }
        CHECK.answers("call 511: open", 1, run::open);
        CHECK.refuses("call 512: get", ArithmeticException.class, () -> run.get(5));
    }

    private static void refusals() {
        SortedRun run = new SortedRun();
        for (int call = 1; call < CALLS; call++) {
            CHECK.refuses("call " + call + ": get", IllegalStateException.class, () -> run.get(0));
        }
        CHECK.answers("call 512: open", 0, run::open);
    }
}
