import java.io.File;
import java.util.BitSet;
import java.util.List;
import java.util.Set;
import java.util.TreeSet;
import java.util.regex.Matcher;
import java.util.regex.Pattern;

/** What README.md says is so: its Java lines stand here in their order and answer what it says, and its table is whole. */
public final class ReadmeTest {
    private ReadmeTest() {
    }

    public static void main(String[] args) {
        checkExamples();
        checkLinesStandHere();
        checkTable();
        Check.end("ReadmeTest");
    }

    private static void checkExamples() {
        // Each line of README.md stands here as it stands there; the checks between them are not in it.
        GardenBureau bureau = new GardenBureau();
        Check.same("the beds of a new bureau", bureau.bedCount(), 3);
        Check.same("the passes of a new bureau", bureau.passCount(), 3);
        Check.same("the time of a new bureau", bureau.time(), 42);
        int pass = bureau.sell(1, 0, 2, GardenBureau.ADULT);    // 3: a pass for scent 0, from day 0, for 2 days
        int card = bureau.cardOf(pass);                         // 3: its card
        int answer = bureau.visit(card, 0);                     // ALLOWED; another answer is the reason of the refusal
        int fine = bureau.pluck(card, 3);                       // 12: twice the rate, for bed 0 is in season
        int sign = bureau.sign(card, 0);                        // SHAKES: another visit would be too soon
        told("pass", pass);
        told("card", card);
        told("answer", answer);
        told("fine", fine);
        told("sign", sign);
        Check.same("why the warden shakes the head", bureau.whyRefused(card, 0), GardenBureau.TOO_SOON);
        try {
            bureau.payFines(pass, 13);
        } catch (IllegalStateException e) {
            bureau.payFines(pass, bureau.owed(pass));           // 0: less than 13 was owed
        }
        Check.same("owed when all is paid", bureau.owed(pass), 0);
        int left = bureau.undo();                               // 3: the fine is owed again, and three changes can be undone
        told("left", left);
        Check.same("owed again", bureau.owed(pass), 12);
        int saved = bureau.saveSnapshot();                      // 42: the time
        int later = bureau.pass(96);                            // 138: the same tick of the next day
        int back = bureau.restoreSnapshot();                    // 42
        int none = bureau.undo();                               // NONE
        told("saved", saved);
        told("later", later);
        told("back", back);
        told("none", none);
        checkScripts(bureau);
    }

    static int runText(GardenBureau bureau, String text) {
        bureau.truncateInput(0);
        for (int start = 0; start < text.length(); start += 20) {
            int[] words = new int[5];
            for (int index = 0; index < 20; index++) {
                char sign = start + index < text.length() ? text.charAt(start + index) : ' ';
                words[index / 4] = words[index / 4] << 8 | sign & 0xFF;
            }
            bureau.append(words[0], words[1], words[2], words[3], words[4]);
        }
        bureau.truncateInput(text.length());
        return bureau.runScript();
    }

    private static void checkScripts(GardenBureau bureau) {
        int sold = runText(bureau, "garden 30 20;bed 0 2 0 9;sell 1 0 3 adult;pass 32;visit 0 0;");    // 1: a pass
        int wrong = runText(bureau, "garden 30 20;visit 0 0;");                                         // NONE
        int kind = bureau.scriptErrorKind();                    // 2: a number that does not exist
        int offset = bureau.scriptErrorOffset();                // 19: that of the card
        told("sold", sold);
        told("wrong", wrong);
        told("kind", kind);
        told("offset", offset);
        StringBuilder days = new StringBuilder();
        int length = bureau.writePass(0);                       // 3: a byte for each day
        for (int index = 0; index < length; index++) {
            days.append((char) bureau.reportByte(index));       // "x..": day 0 is used
        }
        told("length", length);
        Check.same("days", days.toString(), "x..");
        String full = "garden 9;" + " ".repeat(491);
        Check.same("a text of 500 bytes", runText(bureau, full), 0);
    }

    /** The answer must be the one that README.md tells behind the line: a number, or the name of a constant. */
    private static void told(String name, int got) {
        Matcher line = Pattern.compile("int " + name + " = .*// (\\w+)").matcher(Texts.README);
        if (!line.find()) {
            Check.same("README.md tells " + name, false, true);
            return;
        }
        Check.same(name, got, valueOf(line.group(1)));
    }

    private static int valueOf(String word) {
        try {
            return Character.isDigit(word.charAt(0)) ? Integer.parseInt(word) : GardenBureau.class.getField(word).getInt(null);
        } catch (ReflectiveOperationException e) {
            throw new IllegalStateException("README.md tells " + word, e);
        }
    }

    private static void checkLinesStandHere() {
        List<String> lines = Texts.linesOfBlocks(Texts.README, "java");
        Check.same("README.md has Java lines", lines.size() > 30, true);
        String[] source = Texts.read("src/test/java/ReadmeTest.java").split("\n");
        int next = 0;
        for (String line : lines) {
            while (next < source.length && !source[next].strip().equals(line)) {
                next++;
            }
            Check.same("ReadmeTest has, behind the lines before it, <" + line + ">", next < source.length, true);
            next++;
        }
    }

    private static void checkTable() {
        Set<String> listed = new TreeSet<>();
        BitSet promises = new BitSet();
        Matcher row = Pattern.compile("(?m)^\\| (\\w+Test) \\| (.*) \\|$").matcher(Texts.README);
        while (row.find()) {
            listed.add(row.group(1) + ".java");
            addNumbers(promises, row.group(2));
        }
        Set<String> tests = new TreeSet<>();
        for (String name : new File("src/test/java").list()) {
            if (name.endsWith("Test.java")) {
                tests.add(name);
            }
        }
        Check.same("the tests of the table", listed.toString(), tests.toString());
        for (int promise = 1; promise <= 65; promise++) {
            Check.same("Promise " + promise + " has a test of its own", promises.get(promise), true);
        }
    }

    private static void addNumbers(BitSet promises, String cell) {
        Matcher range = Pattern.compile("(\\d+)(?: to (\\d+))?").matcher(cell);
        while (range.find()) {
            int first = Integer.parseInt(range.group(1));
            int last = range.group(2) == null ? first : Integer.parseInt(range.group(2));
            promises.set(first, last + 1);
        }
    }
}
