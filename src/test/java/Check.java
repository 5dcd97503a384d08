import java.util.function.LongSupplier;

/** Counts and prints the calls whose answer is not the one that is due. */
final class Check {
    private static final long MOST_SECONDS = 300;

    private volatile String sentence = "";
    private int calls;
    private int callsBeforeSentence = -1;
    private int wrong;

    Check() {
        Thread watch = new Thread(this::watch);
        watch.setDaemon(true);
        watch.start();
    }

    /** A call that does not end is as wrong as one that answers wrong. */
    private void watch() {
        try {
            Thread.sleep(1000 * MOST_SECONDS);
        } catch (InterruptedException e) {
            return;
        }
        System.out.println(sentence + "no end after " + MOST_SECONDS + " seconds");
        Runtime.getRuntime().halt(1);
    }

    /** The words of the document that the checks from here on are about. */
    void sentence(String words) {
        endSentence();
        sentence = "\"" + words + "\": ";
        callsBeforeSentence = calls;
    }

    void answers(String call, long due, LongSupplier made) {
        String got;
        try {
            got = Long.toString(made.getAsLong());
        } catch (RuntimeException e) {
            got = e.getClass().getName();
        }
        same(call, Long.toString(due), got);
    }

    /** The class must be the very one: a subclass would be an exception that threw itself. */
    void refuses(String call, Class<? extends RuntimeException> due, Runnable made) {
        String got = "no exception";
        try {
            made.run();
        } catch (RuntimeException e) {
            got = e.getClass().getName();
        }
        same(call, due.getName(), got);
    }

    void accepts(String call, Runnable made) {
        String got = "no exception";
        try {
            made.run();
        } catch (RuntimeException e) {
            got = e.getClass().getName();
        }
        same(call, "no exception", got);
    }

    void holds(String what, boolean is) {
        same(what, "true", Boolean.toString(is));
    }

    void same(String call, String due, String got) {
        calls++;
        if (!due.equals(got)) {
            wrong++;
            System.out.println(sentence + call + ": due is " + due + ", got " + got);
        }
    }

    void hasBytes(String what, SortedRun run, byte[] due) {
        answers(what + ": size()", due.length, run::size);
        for (int i = 0; i < due.length; i++) {
            int place = i;
            answers(what + ": at(" + i + ")", due[i] & 255, () -> run.at(place));
        }
    }

    void end() {
        endSentence();
        System.out.println(calls + " checks, " + wrong + " wrong");
        if (wrong != 0 || calls == 0) {
            System.exit(1);
        }
    }

    /** A sentence without a check would look as if it were tested. */
    private void endSentence() {
        if (calls == callsBeforeSentence) {
            same("checks", "some", "none");
        }
    }
}
