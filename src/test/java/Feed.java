import java.nio.charset.StandardCharsets;

/** Puts texts into the input buffer of a bureau. */
final class Feed {
    private Feed() {
    }

    /** Makes the text, of at most 500 bytes, the input buffer: in steps of 20 bytes, with the rest of the last one cut off. */
    static void put(GardenBureau bureau, String text) {
        byte[] bytes = text.getBytes(StandardCharsets.ISO_8859_1);
        bureau.truncateInput(0);
        for (int start = 0; start < bytes.length; start += 20) {
            int got = bureau.append(word(bytes, start), word(bytes, start + 4), word(bytes, start + 8),
                    word(bytes, start + 12), word(bytes, start + 16));
            if (got < 0) {
                throw new IllegalStateException("the text does not fit: " + text);
            }
        }
        bureau.truncateInput(bytes.length);
    }

    static int run(GardenBureau bureau, String text) {
        put(bureau, text);
        return bureau.runScript();
    }

    /** A bureau that the script, which must have no error, has made. */
    static GardenBureau bureau(String script) {
        GardenBureau bureau = new GardenBureau();
        if (run(bureau, script) == GardenBureau.NONE) {
            throw new IllegalStateException("error " + bureau.scriptErrorKind() + " at "
                    + bureau.scriptErrorOffset() + " of: " + script);
        }
        return bureau;
    }

    /** Lets any number of ticks pass. */
    static void passTo(GardenBureau bureau, int time) {
        while (bureau.time() < time) {
            bureau.pass(Math.min(500, time - bureau.time()));
        }
    }

    private static int word(byte[] bytes, int start) {
        int word = 0;
        for (int index = start; index < start + 4; index++) {
            word = word << 8 | (index < bytes.length ? bytes[index] & 0xFF : ' ');
        }
        return word;
    }
}
