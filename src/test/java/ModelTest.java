import java.util.Random;
import java.util.function.LongSupplier;

/** Promises 1 to 11 in runs of 512 calls, the same ones each time, against the model. */
final class ModelTest {
    private static final int RUNS = 3000;
    private static final int CALLS = 512;
    private static final int LOOKS = 16;
    private static final int[] EDGES = {Integer.MIN_VALUE, Integer.MAX_VALUE, -1, 0, 1};

    private final Random random;
    private final String name;
    private final SortedRun run = new SortedRun();
    private final Model model = new Model();
    private int calls;
    private int opened;
    private int read;
    private int differences;

    private ModelTest(int seed) {
        random = new Random(seed);
        name = "run " + seed;
    }

    public static void main(String[] args) {
        Check check = new Check();
        int opened = 0;
        int read = 0;
        for (int seed = 1; seed <= RUNS; seed++) {
            ModelTest test = new ModelTest(seed);
            if (seed % 3 == 0) {
                test.anyCalls();
            } else {
                test.craftedTables();
            }
            check.holds(test.name, test.differences == 0);
            opened += test.opened;
            read += test.read;
        }
        System.out.println(opened + " opened, " + read + " read");
        check.holds("the runs reach tables that can be opened", opened > 3 * RUNS);
        check.holds("the runs reach blocks that can be read", read > RUNS);
        check.end();
    }

    private long same(String call, LongSupplier real, LongSupplier modelled) {
        calls++;
        String due = answer(modelled);
        String got = answer(real);
        if (!due.equals(got)) {
            differences++;
            System.out.println(name + ": call " + calls + ": " + call + ": due is " + due
                    + ", got " + got);
        }
        return due.startsWith("java") ? -1 : Long.parseLong(due);
    }

    private static String answer(LongSupplier call) {
        try {
            return Long.toString(call.getAsLong());
        } catch (RuntimeException e) {
            return e.getClass().getName();
        }
    }

    private void add(int key, long value) {
        same("add(" + key + ", " + value + ")", () -> run.add(key, value),
                () -> model.add(key, value));
    }

    private void write() {
        same("write()", run::write, model::write);
    }

    private void damage(int i, int v) {
        same("damage(" + i + ", " + v + ")", () -> run.damage(i, v), () -> model.damage(i, v));
    }

    private void cut(int n) {
        same("cut(" + n + ")", () -> done(() -> run.cut(n)), () -> done(() -> model.cut(n)));
    }

    private static long done(Runnable call) {
        call.run();
        return 0;
    }

    private void open() {
        if (same("open()", run::open, model::open) >= 0) {
            opened++;
        }
    }

    private void look() {
        int b = random.nextInt(4) == 0 ? someInt() : random.nextInt(4);
        int i = random.nextInt(4) == 0 ? someInt() : random.nextInt(9);
        int key = random.nextBoolean() ? someInt() : someKey();
        switch (random.nextInt(6)) {
            case 0 -> same("size()", run::size, model::size);
            case 1 -> {
                int place = random.nextInt(4) == 0 ? someInt() : random.nextInt(model.size() + 2);
                same("at(" + place + ")", () -> run.at(place), () -> model.at(place));
            }
            case 2 -> {
                if (same("entries(" + b + ")", () -> run.entries(b), () -> model.entries(b)) > 0) {
                    read++;
                }
            }
            case 3 -> same("key(" + b + ", " + i + ")", () -> run.key(b, i),
                    () -> model.key(b, i));
            default -> same("get(" + key + ")", () -> run.get(key), () -> model.get(key));
        }
    }

    /** A KEY that a BLOCK has, if there is one where it is sought. */
    private int someKey() {
        try {
            return model.key(random.nextInt(3), random.nextInt(8));
        } catch (RuntimeException e) {
            return random.nextInt(40) - 20;
        }
    }

    private int someInt() {
        return switch (random.nextInt(3)) {
            case 0 -> EDGES[random.nextInt(EDGES.length)];
            case 1 -> random.nextInt(40) - 20;
            default -> random.nextInt() >> random.nextInt(32);
        };
    }

    private long someLong() {
        return random.nextInt(8) == 0 ? Long.MIN_VALUE + random.nextInt(3) - 1
                : random.nextLong() >> random.nextInt(64);
    }

    private void anyCalls() {
        int step = 1 << random.nextInt(24);
        int key = someInt();
        int most = 1 << random.nextInt(10);
        while (calls < CALLS) {
            for (int i = random.nextInt(most); i >= 0 && calls < CALLS / 4 * 3; i--) {
                add(random.nextInt(30) == 0 ? someInt() : key, someLong());
                key += random.nextInt(step) + 1;
            }
            write();
            for (int i = random.nextInt(20) + 2; i >= 0 && calls < CALLS; i--) {
                int kind = random.nextInt(24);
                if (kind == 0) {
                    damage(random.nextInt(model.size() + 2) - 1, random.nextInt());
                } else if (kind == 1) {
                    cut(random.nextInt(8) == 0 ? someInt() : model.size() - random.nextInt(2));
                } else if (kind < 6) {
                    open();
                } else {
                    look();
                }
            }
        }
    }

    private void craftedTables() {
        byte[] bytes = craft();
        while (calls + callsFor(bytes) <= CALLS) {
            for (int i = 0; i < fillers(bytes); i++) {
                add(i * 1000, Long.MIN_VALUE);
            }
            write();
            for (int i = 0; i < bytes.length; i++) {
                damage(i, bytes[i]);
            }
            cut(bytes.length);
            open();
            for (int i = 0; i < LOOKS; i++) {
                look();
            }
            bytes = craft();
        }
    }

    /** So many ENTRIES, of eleven bytes and more, as make a table that is long enough. */
    private static int fillers(byte[] bytes) {
        return bytes.length / 11 + 1;
    }

    private static int callsFor(byte[] bytes) {
        return fillers(bytes) + 1 + bytes.length + 2 + LOOKS;
    }

    private byte[] craft() {
        int told = random.nextInt(4);
        Bytes[] blocks = new Bytes[told];
        Bytes index = new Bytes();
        number(index, told + (random.nextInt(30) == 0 ? random.nextInt(3) - 1 : 0));
        for (int b = 0; b < told; b++) {
            blocks[b] = craftBlock();
            int length = blocks[b].length() + (random.nextInt(30) == 0 ? random.nextInt(3) - 1 : 0);
            number(index, length);
            number(index, random.nextInt(30) == 0 ? Bytes.fold(someLong())
                    : Bytes.fold(random.nextInt(3) == 0 ? someInt() : 5 * b - 5));
        }
        if (random.nextInt(30) == 0) {
            index.raw(random.nextInt(256));
        }
        byte[] table = Bytes.table(index, blocks);
        if (random.nextInt(20) == 0) {
            table[random.nextInt(table.length)] ^= (byte) (1 << random.nextInt(8));
        }
        return table;
    }

    private Bytes craftBlock() {
        if (random.nextInt(20) == 0) {
            return Bytes.of(new int[random.nextInt(6)]);
        }
        Bytes body = new Bytes();
        int numbers = random.nextInt(10) == 0 ? random.nextInt(9) : 2 * random.nextInt(5);
        for (int i = 0; i < numbers; i++) {
            number(body, random.nextInt(3) == 0 ? someLong() : random.nextInt(8));
        }
        return body.summed();
    }

    /** Now and then in more bytes than need be, up to ten or one too many, or too high. */
    private void number(Bytes out, long number) {
        if (random.nextInt(20) != 0) {
            out.number(number);
            return;
        }
        int length = random.nextInt(12) + 1;
        long rest = number;
        for (int i = 1; i < length; i++) {
            out.raw((int) (rest & 127) | 128);
            rest >>>= 7;
        }
        out.raw((int) (rest & 127) | (random.nextInt(30) == 0 ? 2 : 0));
    }
}
