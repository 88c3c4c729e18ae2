/**
 * All that the calls of a bureau tell about what it holds, as a text. Each part of it uses a bureau of its own up, so
 * that an object is asked less than 512 times.
 */
final class Probe {
    /** Some calls on a bureau. */
    interface Acts {
        void on(GardenBureau bureau);
    }

    private static final int PART = 10;

    private Probe() {
    }

    static GardenBureau make(Acts acts) {
        GardenBureau bureau = new GardenBureau();
        acts.on(bureau);
        return bureau;
    }

    static String all(Acts acts) {
        return input(make(acts)) + outsideInput(acts);
    }

    /** All but the input buffer and the script error, which are what a script with an error changes. */
    static String outsideInput(Acts acts) {
        return report(make(acts)) + state(acts) + past(acts) + snapshot(make(acts));
    }

    /** What undo restores. */
    static String state(Acts acts) {
        StringBuilder text = new StringBuilder(Picture.ofHead(make(acts)));
        GardenBureau counted = make(acts);
        for (int from = 0; from < counted.passCount(); from += PART) {
            text.append(Picture.ofPasses(make(acts), from, Math.min(counted.passCount(), from + PART)));
        }
        for (int from = 0; from < counted.cardCount(); from += PART) {
            text.append(Picture.ofCards(make(acts), from, Math.min(counted.cardCount(), from + PART)));
        }
        return text.append(settings(make(acts))).toString();
    }

    private static String settings(GardenBureau bureau) {
        StringBuilder text = new StringBuilder("\nsettings ");
        text.append(bureau.setPause(0)).append(' ').append(bureau.setRate(1)).append(' ');
        for (int tick = 0; tick < 96 && bureau.time() < 9599; tick++) {
            bureau.pass(1);
            text.append(bureau.isOpen() ? 'o' : 'c');
        }
        return text.toString();
    }

    private static String past(Acts acts) {
        int count = make(acts).undoCount();
        StringBuilder text = new StringBuilder("\nundoCount ").append(count);
        for (int steps = 1; steps <= count; steps++) {
            GardenBureau bureau = make(acts);
            for (int step = 0; step < steps; step++) {
                text.append(' ').append(bureau.undo());
            }
            text.append('\n').append(Picture.ofHead(bureau));
        }
        return text.toString();
    }

    private static String report(GardenBureau bureau) {
        StringBuilder text = new StringBuilder("report");
        for (int index = 0; index < 16; index++) {
            text.append(' ').append(bureau.reportByte(index));
        }
        return text.append('\n').toString();
    }

    private static String snapshot(GardenBureau bureau) {
        if (!Check.thrownBy(bureau::restoreSnapshot).equals("nothing")) {
            return "\nno snapshot";
        }
        return "\nsnapshot " + Picture.ofHead(bureau);
    }

    private static String input(GardenBureau bureau) {
        StringBuilder text = new StringBuilder("error ");
        text.append(bureau.scriptErrorKind()).append(' ').append(bureau.scriptErrorOffset());
        int length = lengthOfInput(bureau);
        text.append("\ninput ").append(length).append(' ').append(bureau.runScript()).append(' ');
        text.append(bureau.scriptErrorKind()).append(' ').append(bureau.scriptErrorOffset()).append(' ');
        return text.append(Picture.ofHead(bureau)).append('\n').toString();
    }

    static int lengthOfInput(GardenBureau bureau) {
        int length = bureau.append(0, 0, 0, 0, 0) - 20;
        if (length < 0) {
            length = 500;
            while (!isLength(bureau, length)) {
                length--;
            }
        }
        bureau.truncateInput(length);
        return length;
    }

    private static boolean isLength(GardenBureau bureau, int length) {
        return Check.thrownBy(() -> bureau.truncateInput(length)).equals("nothing");
    }
}
