/** Counts the answers that are not as due, prints them, and ends the test with exit code 1 if there was one. */
final class Check {
    /** A call whose answer is of no interest. */
    interface Call {
        void run();
    }

    private static final java.util.BitSet PROMISES = new java.util.BitSet();
    private static int checks;
    private static int wrong;
    private static int promise;
    private static String subject = "";

    private Check() {
    }

    /** Says which promise, and which words of the document, the checks that follow are of; the words must stand there. */
    static void about(int number, String words) {
        // The check of the words alone does not make the promise one that is checked.
        promise = 0;
        subject = "";
        same("the document says \"" + words + "\"", Texts.DOCUMENT.contains(words), true);
        promise = number;
        subject = "Promise " + number + ", \"" + words + "\": ";
    }

    /** Every promise of these must have had a check. */
    static void everyPromise(int first, int last) {
        promise = 0;
        subject = "";
        for (int number = first; number <= last; number++) {
            same("Promise " + number + " is checked", PROMISES.get(number), true);
        }
    }

    static void same(String what, long got, long due) {
        report(what, got == due, String.valueOf(got), String.valueOf(due));
    }

    static void same(String what, double got, double due) {
        report(what, Double.compare(got, due) == 0, String.valueOf(got), String.valueOf(due));
    }

    static void same(String what, boolean got, boolean due) {
        report(what, got == due, String.valueOf(got), String.valueOf(due));
    }

    static void same(String what, String got, String due) {
        report(what, got.equals(due), got, due);
    }

    static void throwsIndex(String what, Call call) {
        throwsExactly(what, IndexOutOfBoundsException.class, call);
    }

    static void throwsArgument(String what, Call call) {
        throwsExactly(what, IllegalArgumentException.class, call);
    }

    static void throwsState(String what, Call call) {
        throwsExactly(what, IllegalStateException.class, call);
    }

    static void throwsExactly(String what, Class<? extends RuntimeException> due, Call call) {
        String got = thrownBy(call);
        report(what + " throws", got.equals(due.getName()), got, due.getName());
    }

    /** The name of the exception that a call throws, or "nothing". */
    static String thrownBy(Call call) {
        try {
            call.run();
        } catch (RuntimeException e) {
            return e.getClass().getName();
        }
        return "nothing";
    }

    static void end(String test) {
        System.out.println(test + ": " + checks + " checks, " + wrong + " wrong");
        if (wrong != 0) {
            System.exit(1);
        }
    }

    private static void report(String what, boolean right, String got, String due) {
        checks++;
        PROMISES.set(promise);
        if (!right) {
            wrong++;
            System.out.println(subject + what + " answered " + got + ", due is " + due);
        }
    }
}
