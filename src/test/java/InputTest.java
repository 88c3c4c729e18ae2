/** Promises 2 and 3: append and truncateInput. */
public final class InputTest {
    private InputTest() {
    }

    public static void main(String[] args) {
        checkAppend();
        checkBytes();
        checkTruncate();
        Check.end("InputTest");
    }

    private static void checkAppend() {
        GardenBureau bureau = new GardenBureau();
        for (int length = 20; length <= 500; length += 20) {
            Check.same("append to " + length, bureau.append(-1, 0, 1, Integer.MIN_VALUE, Integer.MAX_VALUE), length);
        }
        Check.same("append to 520", bureau.append(0, 0, 0, 0, 0), GardenBureau.NO_ROOM);
        Check.same("nothing was appended", bureau.truncateInput(500), 500);
        Check.same("truncate", bureau.truncateInput(481), 481);
        Check.same("append to 501", bureau.append(0, 0, 0, 0, 0), GardenBureau.NO_ROOM);
        Check.same("nothing was appended", bureau.truncateInput(481), 481);
        Check.same("truncate", bureau.truncateInput(480), 480);
        Check.same("append to 500", bureau.append(0, 0, 0, 0, 0), 500);
        Check.same("input is no change", bureau.undoCount(), 0);
    }

    // "garden 7 8 9;" and blanks, written as words: the most significant byte comes first.
    private static void checkBytes() {
        GardenBureau bureau = new GardenBureau();
        bureau.append(0x67617264, 0x656E2037, 0x20382039, 0x3B202020, 0x20200A20);
        Check.same("script", bureau.runScript(), 0);
        Check.same("price", bureau.quote(1, 1, 0), 7);
        Check.same("price", bureau.quote(2, 1, 0), 8);
        Check.same("price", bureau.quote(4, 1, 0), 9);
        // A byte above 127 begins no token, wherever it stands.
        bureau.append(0x67617264, 0x656E2037, 0x3B202020, 0x20202020, 0x202020FF);
        Check.same("script", bureau.runScript(), GardenBureau.NONE);
        Check.same("kind", bureau.scriptErrorKind(), 1);
        Check.same("offset", bureau.scriptErrorOffset(), 19);
    }

    private static void checkTruncate() {
        GardenBureau bureau = new GardenBureau();
        Check.same("truncate the empty input", bureau.truncateInput(0), 0);
        Check.throwsArgument("truncateInput(1)", () -> bureau.truncateInput(1));
        Check.throwsArgument("truncateInput(-1)", () -> bureau.truncateInput(-1));
        Feed.put(bureau, "garden 7 8; bed 0 1 0 0;");
        Check.throwsArgument("truncateInput(25)", () -> bureau.truncateInput(25));
        Check.throwsArgument("truncateInput(MAX)", () -> bureau.truncateInput(Integer.MAX_VALUE));
        Check.throwsArgument("truncateInput(MIN)", () -> bureau.truncateInput(Integer.MIN_VALUE));
        Check.same("truncateInput(24)", bureau.truncateInput(24), 24);
        Check.same("truncateInput(11)", bureau.truncateInput(11), 11);
        Check.throwsArgument("truncateInput(12)", () -> bureau.truncateInput(12));
        Check.same("what follows the cut", bureau.append(0x20202020, 0x20202020, 0x20202020, 0x20202020, 0x20202020), 31);
        Check.same("script", bureau.runScript(), 0);
        Check.same("the bed is cut off", bureau.bedCount(), 0);
        Check.same("truncate is no change", bureau.undoCount(), 1);
    }
}
