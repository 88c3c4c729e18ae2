/** A call that throws: it must throw just what the document names, and must change nothing. */
final class Refused {
    private Refused() {
    }

    static void index(String call, Probe.Acts before, Probe.Acts refused) {
        check(IndexOutOfBoundsException.class, call, before, refused);
    }

    static void argument(String call, Probe.Acts before, Probe.Acts refused) {
        check(IllegalArgumentException.class, call, before, refused);
    }

    static void state(String call, Probe.Acts before, Probe.Acts refused) {
        check(IllegalStateException.class, call, before, refused);
    }

    private static void check(Class<? extends RuntimeException> due, String call, Probe.Acts before, Probe.Acts refused) {
        Probe.Acts acts = bureau -> prepare(bureau, before);
        GardenBureau bureau = Probe.make(acts);
        Check.throwsExactly(call, due, () -> refused.on(bureau));
        String changed = Probe.all(other -> {
            acts.on(other);
            Check.thrownBy(() -> refused.on(other));
        });
        Check.same(call + " leaves all as it was", changed, Probe.all(acts));
    }

    // Gives the call something to spoil: a report, a snapshot, a script's error, changes to undo, and an input.
    private static void prepare(GardenBureau bureau, Probe.Acts before) {
        bureau.writePass(1);
        bureau.saveSnapshot();
        Feed.run(bureau, "garden x");
        bureau.setPrice(2, 16);
        before.on(bureau);
        bureau.append(0x67617264, 0x656E2037, 0x20382039, 0x3B202020, 0x20200A20);
    }
}
