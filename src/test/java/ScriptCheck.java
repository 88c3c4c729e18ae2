/** Runs a script on a new bureau, and checks its answer, the kind of its error and the offset. */
final class ScriptCheck {
    private ScriptCheck() {
    }

    static void error(String text, int kind, int offset) {
        GardenBureau bureau = new GardenBureau();
        Check.same("runScript of <" + text + ">", Feed.run(bureau, text), GardenBureau.NONE);
        Check.same("kind of <" + text + ">", bureau.scriptErrorKind(), kind);
        Check.same("offset of <" + text + ">", bureau.scriptErrorOffset(), offset);
    }

    /** The error is at the first byte of the part behind the mark '^', which is no part of the text. */
    static void errorAt(String marked, int kind) {
        error(marked.replace("^", ""), kind, marked.indexOf('^'));
    }

    static void fine(String text, int passes) {
        GardenBureau bureau = new GardenBureau();
        Check.same("runScript of <" + text + ">", Feed.run(bureau, text), passes);
        Check.same("kind of <" + text + ">", bureau.scriptErrorKind(), 0);
        Check.same("offset of <" + text + ">", bureau.scriptErrorOffset(), GardenBureau.NONE);
    }
}
