/** The edges of the promises 1 to 3: a new object, append and truncateInput. */
final class InputEdges {
    private static final String FOUNDING = "garden 30 20 15; bed 0 2 0 9; bed 1 1 5 9; bed 2 3 0 0; sell 1 0 1 adult; "
            + "sell 3 0 6 adult; sell 7 1 3 child; pass 40; visit 0 0; visit 1 1; pluck 0 2; pass 2; visit 1 0; "
            + "pluck 1 3; lost 0;";
    private static final int BLANKS = 0x20202020;

    private InputEdges() {
    }

    static void check() {
        checkNewObject();
        checkLifeOfAnObject();
        checkLengthOfInput();
        checkFullInput();
        checkOrderOfBytes();
        checkTruncate();
    }

    private static void checkNewObject() {
        Check.about(1, "Creates a bureau as by the script");
        Check.same("the state", Probe.state(Recipes::nothing), Probe.state(bureau -> {
            bureau.setRate(9);
            bureau.setPause(8);
            bureau.setPeacocks(0, 95);
            Recipes.thirtyPasses(bureau);
            Feed.run(bureau, FOUNDING);
        }));
        Check.about(1, "The input buffer is empty");
        Check.same("length", Probe.lengthOfInput(new GardenBureau()), 0);
        Refused.argument("truncateInput(21) behind one append", Recipes::nothing, bureau -> bureau.truncateInput(21));
        GardenBureau bureau = new GardenBureau();
        Check.same("runScript()", bureau.runScript(), GardenBureau.NONE);
        Check.same("scriptErrorKind()", bureau.scriptErrorKind(), 1);
        Check.same("scriptErrorOffset()", bureau.scriptErrorOffset(), 0);
        Check.about(1, "nothing can be undone");
        Check.same("undo()", bureau.undo(), GardenBureau.NONE);
        Check.same("undoCount()", bureau.undoCount(), 0);
        Check.same("time()", bureau.time(), 42);
        GardenBureau other = new GardenBureau();
        bureau.setRate(20);
        Check.same("another object's undoCount()", other.undoCount(), 0);
        Check.same("another object's rate", other.setRate(1), 2);
        Check.same("rate", bureau.setRate(1), 20);
    }

    private static void checkLifeOfAnObject() {
        Check.about(1, "An object is used for at most 512 calls");
        GardenBureau bureau = new GardenBureau();
        for (int call = 1; call <= 503; call++) {
            bureau.setRate(1 + call % 20);
        }
        Check.same("call 504", bureau.undoCount(), 8);
        for (int left = 7; left >= 1; left--) {
            Check.same("undo()", bureau.undo(), left);
        }
        Check.same("call 512", bureau.fineFor(1, 1), 1 + 496 % 20);
    }

    private static void checkLengthOfInput() {
        Check.about(2, "Returns the new length of the buffer");
        GardenBureau bureau = new GardenBureau();
        for (int length = 20; length <= 500; length += 20) {
            Check.same("append(..)", bureau.append(Recipes.MIN, Recipes.MAX, -1, 0, 1), length);
        }
        bureau.truncateInput(0);
        for (int length = 0; length <= 480; length += 32) {
            Check.same("append(..) to " + length, lengthBehind(length), length + 20);
        }
        Check.same("append(..) to 479", lengthBehind(479), 499);
        Check.same("append is no change", bureau.undoCount(), 0);
    }

    private static int lengthBehind(int length) {
        GardenBureau bureau = new GardenBureau();
        for (int full = 0; full < length; full += 20) {
            bureau.append(BLANKS, BLANKS, BLANKS, BLANKS, BLANKS);
        }
        bureau.truncateInput(length);
        return bureau.append(BLANKS, BLANKS, BLANKS, BLANKS, BLANKS);
    }

    private static void checkFullInput() {
        Check.about(2, "NO_ROOM (and nothing is appended) if it would be greater than 500");
        Check.same("append(..) to 480", lengthBehind(480), 500);
        for (int length = 481; length <= 500; length++) {
            int size = length;
            Check.same("append(..) to " + length, lengthBehind(length), GardenBureau.NO_ROOM);
            Probe.Acts full = bureau -> Feed.put(bureau, "garden 9;" + " ".repeat(size - 10) + "x");
            Check.same("append(..) to " + length + " leaves all", Probe.all(bureau -> {
                full.on(bureau);
                bureau.append(0, 0, 0, 0, 0);
            }), Probe.all(full));
        }
    }

    private static void checkOrderOfBytes() {
        Check.about(2, "the four bytes of each parameter, the most significant byte first");
        for (int place = 0; place < 20; place++) {
            int[] words = {BLANKS, BLANKS, BLANKS, BLANKS, BLANKS};
            words[place / 4] |= 0xFF << 24 - place % 4 * 8;
            GardenBureau bureau = new GardenBureau();
            bureau.append(BLANKS, BLANKS, BLANKS, BLANKS, BLANKS);
            bureau.append(words[0], words[1], words[2], words[3], words[4]);
            bureau.runScript();
            Check.same("offset of byte " + place, bureau.scriptErrorOffset(), 20 + place);
        }
        GardenBureau bureau = new GardenBureau();
        // "gard" "en1;" "bed0" " 1 2" " 3;\n"
        bureau.append(0x67617264, 0x656E313B, 0x62656430, 0x20312032, 0x20333B0A);
        Check.same("runScript()", bureau.runScript(), 0);
        Check.same("places", bureau.placesLeft(0), 1);
        Check.same("price", bureau.quote(1, 1, GardenBureau.ADULT), 1);
    }

    private static void checkTruncate() {
        Check.about(3, "IllegalArgumentException` if `length` is negative or greater than the present length");
        Check.throwsArgument("truncateInput(1) of the empty input", () -> new GardenBureau().truncateInput(1));
        Check.throwsArgument("truncateInput(-1) of the empty input", () -> new GardenBureau().truncateInput(-1));
        // Behind these, Refused appends 20 bytes more, if there is room.
        Probe.Acts eighty = bureau -> Feed.put(bureau, "garden 9;" + " ".repeat(51));
        for (int length : new int[] {-1, 81, 500, 501, Recipes.MIN, Recipes.MAX}) {
            Refused.argument("truncateInput(" + length + ") of 80", eighty, bureau -> bureau.truncateInput(length));
        }
        Probe.Acts full = bureau -> Feed.put(bureau, "garden 9;" + " ".repeat(491));
        Refused.argument("truncateInput(501) of 500", full, bureau -> bureau.truncateInput(501));
        Refused.argument("truncateInput(-1) of 500", full, bureau -> bureau.truncateInput(-1));
        Check.about(3, "Returns the new length");
        Check.same("truncateInput(0) of the empty input", new GardenBureau().truncateInput(0), 0);
        GardenBureau bureau = Probe.make(full);
        for (int length : new int[] {500, 499, 499, 9, 8, 8, 1, 0, 0}) {
            Check.same("truncateInput(" + length + ")", bureau.truncateInput(length), length);
        }
        Check.about(3, "Shortens the input buffer");
        Feed.put(bureau, "garden 9;x");
        bureau.truncateInput(9);
        Check.same("the rest is a script", bureau.runScript(), 0);
        Feed.put(bureau, "garden 9;x");
        bureau.truncateInput(10);
        Check.same("a length that stays", bureau.runScript(), GardenBureau.NONE);
        Feed.put(bureau, "garden 9;garden 9;");
        bureau.truncateInput(0);
        bureau.runScript();
        Check.same("nothing is left of it", bureau.scriptErrorOffset(), 0);
        Check.same("truncateInput is no change", bureau.undoCount(), 1);
    }
}
