/** The edges of the promises 4, 24 and 25, and of the section on scripts. */
final class ScriptEdges {
    private static final String START = "garden 9 9;bed 0 1 0 9;sell 1 0 1 adult;bed 0 1 0 9;sell 1 0 1 adult;";
    private static final String VISITED = START + "pass 32;visit 0 0;visit 1 1;";
    private static final String FINED = VISITED + "pluck 0 1;pluck 1 1;";
    private static final String OUT_OF_RANGE = "2, a number that is out of its range or does not exist";
    private static final String NOT_ALLOWED = "1, a token that the grammar does not allow at this place";

    private ScriptEdges() {
    }

    static void check() {
        checkEmptyAndFullText();
        checkAnswer();
        checkBytes();
        checkDigits();
        checkWords();
        checkRanges();
        checkWhatDoesNotExist();
        checkPrices();
        checkEndOfText();
        checkNotExecutable();
        checkRefusedVisits();
        checkFirstAndSmallest();
        checkWhatAnErrorLeaves();
        checkWhatAScriptReplaces();
        checkCommands();
        checkErrorCalls();
    }

    private static void checkEmptyAndFullText() {
        Check.about(4, "A script is a text of at most 500 bytes");
        ScriptCheck.fine("garden 9;" + " ".repeat(482) + "pass 500;", 0);
        ScriptCheck.error("garden 9;" + " ".repeat(490) + "x", 1, 499);
        ScriptCheck.error("garden 9;" + " ".repeat(488) + "bed", 1, 500);
        ScriptCheck.error(" ".repeat(500), 1, 500);
        ScriptCheck.error("\n".repeat(499), 1, 499);
        ScriptCheck.error("", 1, 0);
        ScriptCheck.error(" ", 1, 1);
    }

    private static void checkAnswer() {
        Check.about(4, "Returns the number of passes that were sold, or NONE if the script has an error");
        ScriptCheck.fine("garden 9;", 0);
        ScriptCheck.fine("garden 9;sell 1 0 1 adult;", 1);
        ScriptCheck.fine("garden 9;sell 1 0 1 adult;refund 0;", 1);
        ScriptCheck.fine("garden 9;" + "sell1 0 1child;".repeat(30), 30);
        Check.about(4, "The input buffer is empty afterwards in every case");
        for (String text : new String[] {"", "garden 9;", "garden", "garden 0;", "garden 1 2 3 4 5 6;", "garden 9;pass 1;"}) {
            GardenBureau bureau = new GardenBureau();
            Feed.run(bureau, text);
            Check.same("the input behind <" + text + ">", Probe.lengthOfInput(bureau), 0);
        }
        GardenBureau full = new GardenBureau();
        Feed.run(full, " ".repeat(500));
        Check.same("the input behind 500 bytes", Probe.lengthOfInput(full), 0);
    }

    // Each of the 256 bytes stands behind a script, between its first tokens, and in a number.
    private static void checkBytes() {
        for (int sign = 0; sign < 256; sign++) {
            char c = (char) sign;
            boolean blank = sign == 32 || sign == 10;
            boolean letter = sign >= 97 && sign <= 122;
            boolean digit = sign >= 48 && sign <= 57;
            Check.about(4, blank ? "Spaces (byte 32) and line feeds (byte 10) separate tokens and are otherwise ignored"
                    : "a byte that does not begin a token");
            if (blank) {
                ScriptCheck.fine("garden 9;" + c, 0);
                ScriptCheck.fine(c + "garden" + c + c + "1" + c + "1" + c + ";" + c, 0);
                continue;
            }
            ScriptCheck.error("garden 9;" + c, 1, 9);
            if (digit) {
                ScriptCheck.fine("garden" + c + "9;", 0);
                ScriptCheck.error("garden 1" + c + "1;", 2, 7);
                continue;
            }
            ScriptCheck.error("garden" + c + "9;", 1, letter ? 0 : 6);
            ScriptCheck.error("garden 1" + c + "1;", 1, sign == 59 ? 9 : 8);
        }
    }

    private static void checkDigits() {
        Check.about(4, "a number (a maximal run of 1 to 4 digits)");
        ScriptCheck.fine("garden 9;", 0);
        ScriptCheck.fine("garden 99;", 0);
        ScriptCheck.fine("garden 009;", 0);
        ScriptCheck.fine("garden 0009 0099;sell 0003 0000 0014 adult;", 1);
        Check.about(4, "a run of more than 4 digits");
        ScriptCheck.errorAt("garden ^00009;", 1);
        ScriptCheck.errorAt("garden ^10000;", 1);
        ScriptCheck.errorAt("garden ^000000000000000000009;", 1);
        ScriptCheck.errorAt("garden 9 ^00009;", 1);
        ScriptCheck.errorAt("garden 1 2 3 4 5 ^00006;", 1);
        ScriptCheck.errorAt("^00009;", 1);
        ScriptCheck.errorAt("garden 9;^00009;", 1);
        ScriptCheck.errorAt(START + "pass ^00001;", 1);
        ScriptCheck.errorAt(START + "pass 1 ^00001;", 1);
        // The number would wrap around to 1 in 32 bits.
        ScriptCheck.errorAt(START + "pass ^4294967297;", 1);
    }

    private static void checkWords() {
        Check.about(4, "a word (a maximal run of the letters a to z)");
        String[] commands = {"bed 0 1 0 0", "sell 1 0 1 adult", "visit 0 0", "pluck 0 1", "pay 0 1", "lost 0",
            "replace 0", "peacocks 0 0", "pass 1", "refund 0"};
        String[] before = {START, START, START + "pass 32;", VISITED, FINED, START, START + "lost 0;", START, START, START};
        for (int index = 0; index < commands.length; index++) {
            String word = commands[index].substring(0, commands[index].indexOf(' '));
            String rest = commands[index].substring(word.length());
            ScriptCheck.fine(before[index] + word + rest + ";", word.equals("sell") ? 3 : 2);
            ScriptCheck.fine(before[index] + word + rest.substring(1) + " \n;", word.equals("sell") ? 3 : 2);
            Check.about(4, NOT_ALLOWED);
            ScriptCheck.errorAt(before[index] + "^" + word + "s" + rest + ";", 1);
            ScriptCheck.errorAt(before[index] + "^x" + word + rest + ";", 1);
            ScriptCheck.errorAt(before[index] + "^x" + word.substring(1) + rest + ";", 1);
            ScriptCheck.errorAt(before[index] + "^" + word.substring(0, word.length() - 1) + rest + ";", 1);
            ScriptCheck.errorAt(before[index] + "^" + word.toUpperCase(java.util.Locale.ROOT) + rest + ";", 1);
            ScriptCheck.errorAt(before[index] + word + rest + " ^0;", 1);
            ScriptCheck.errorAt(before[index] + word + rest + " ^pass 1;", 1);
            ScriptCheck.errorAt(before[index] + word + rest + ";^;", 1);
            Check.about(4, "the end of the text inside a statement (the offset is then the length of the text)");
            ScriptCheck.errorAt(before[index] + word + "^", 1);
            ScriptCheck.errorAt(before[index] + word + rest + "^", 1);
            ScriptCheck.errorAt(before[index] + word + rest + " \n^", 1);
        }
        Check.about(4, NOT_ALLOWED);
        for (String kind : new String[] {"adul", "adults", "xdult", "chil", "children", "xhild", "garden", "0", "1", ";", "00000", "?"}) {
            ScriptCheck.errorAt(START + "sell 1 0 1 ^" + kind + ";", 1);
        }
        for (String first : new String[] {"gardens", "garde", "xarden", "Garden", "bed", "9", ";", "99999", "?"}) {
            ScriptCheck.errorAt("^" + first + " 9;", 1);
        }
        ScriptCheck.errorAt(START + "^garden 9;", 1);
        ScriptCheck.errorAt(START + "^adult;", 1);
        ScriptCheck.errorAt(START + "^0;", 1);
    }

    /** A number, and nothing else, must stand between the two parts; a kind of 0 stands for no error. */
    private static void range(String before, String after, int least, int most, int kindOfLeast, int kindOfMost) {
        values(before, after, least, most, kindOfLeast, kindOfMost);
        Check.about(4, NOT_ALLOWED);
        for (String other : new String[] {"x", "adult", ";", "-1", "+1"}) {
            ScriptCheck.error(before + other + after, 1, before.length());
        }
        Check.about(4, "the end of the text inside a statement (the offset is then the length of the text)");
        ScriptCheck.error(before, 1, before.length());
        ScriptCheck.error(before + "\n\n", 1, before.length() + 2);
    }

    private static void values(String before, String after, int least, int most, int kindOfLeast, int kindOfMost) {
        int offset = before.length();
        Check.about(4, OUT_OF_RANGE);
        allowed(before + least + after, kindOfLeast);
        allowed(before + most + after, kindOfMost);
        allowed(before + String.format("%04d", least) + after, kindOfLeast);
        if (least > 0) {
            ScriptCheck.error(before + (least - 1) + after, 2, offset);
            ScriptCheck.error(before + 0 + after, 2, offset);
        }
        if (most < 9999) {
            ScriptCheck.error(before + (most + 1) + after, 2, offset);
            ScriptCheck.error(before + 9999 + after, 2, offset);
        }
        Check.about(4, "a run of more than 4 digits");
        ScriptCheck.error(before + String.format("%05d", least) + after, 1, offset);
        ScriptCheck.error(before + 10000 + after, 1, offset);
    }

    private static void allowed(String text, int kind) {
        GardenBureau bureau = new GardenBureau();
        Feed.run(bureau, text);
        Check.same("kind of <" + text + ">", bureau.scriptErrorKind(), kind);
    }

    private static void checkRanges() {
        range("garden ", ";", 1, 99, 0, 0);
        values("garden 1 2 3 4 ", ";", 1, 99, 0, 0);
        range(START + "bed ", " 1 0 0;", 0, 1, 0, 0);
        range(START + "bed 0 ", " 0 0;", 1, 20, 0, 0);
        range(START + "bed 0 1 ", " 99;", 0, 99, 0, 0);
        range(START + "bed 0 1 7 ", ";", 7, 99, 0, 0);
        range(START + "bed 0 1 99 ", ";", 99, 99, 0, 0);
        range(START + "sell ", " 0 1 adult;", 1, 3, 0, 0);
        range("garden 9;sell ", " 0 1 adult;", 1, 1, 0, 0);
        range("garden 1 2 3 4 5;sell ", " 0 1 adult;", 1, 31, 0, 0);
        range(START + "sell 1 ", " 14 adult;", 0, 99, 0, 0);
        range(START + "pass 191;sell 1 ", " 1 adult;", 1, 99, 0, 0);
        range(START + "pass 192;sell 1 ", " 1 adult;", 2, 99, 0, 0);
        range(START + "sell 1 0 ", " child;", 1, 14, 0, 0);
        range(START + "pass 32;visit ", " 0;", 0, 1, 0, 0);
        range(START + "pass 32;visit 0 ", ";", 0, 1, 0, 0);
        range(VISITED + "pluck ", " 1;", 0, 1, 0, 0);
        range(VISITED + "pluck 0 ", ";", 1, 9, 0, 0);
        range(FINED + "pay ", " 1;", 0, 1, 0, 0);
        range(FINED + "pay 0 ", ";", 1, 9999, 0, 4);
        range(START + "lost ", ";", 0, 1, 0, 0);
        range(START + "lost 0;lost 1;replace ", ";", 0, 1, 0, 0);
        range(START + "refund ", ";", 0, 1, 0, 0);
        range(START + "peacocks ", " 95;", 0, 95, 0, 0);
        range(START + "peacocks 7 ", ";", 7, 95, 0, 0);
        range(START + "peacocks 95 ", ";", 95, 95, 0, 0);
        range(START + "pass ", ";", 1, 500, 0, 0);
    }

    private static void checkWhatDoesNotExist() {
        Check.about(4, OUT_OF_RANGE);
        for (String command : new String[] {"visit ^0 0;", "pluck ^0 1;", "pay ^0 1;", "lost ^0;", "replace ^0;", "refund ^0;"}) {
            ScriptCheck.errorAt("garden 9;" + command, 2);
        }
        ScriptCheck.errorAt("garden 9;sell 1 0 1 adult;visit 0 ^0;", 2);
        ScriptCheck.errorAt("garden 9;bed 0 1 0 0;visit ^0 0;", 2);
        ScriptCheck.errorAt("garden 9;bed ^1 1 0 0;", 2);
        ScriptCheck.fine("garden 9;bed 0 1 0 0;", 0);
        // A card that is issued by a command can be shown by the next one.
        ScriptCheck.errorAt(START + "lost 0;pass 32;visit ^2 0;", 2);
        ScriptCheck.fine(START + "lost 0;replace 0;pass 32;visit 2 0;", 2);
        ScriptCheck.errorAt(START + "visit ^2 0;sell 1 0 1 adult;", 2);
        Check.about(4, "(a second DAY or TICK that is less than the first one)");
        ScriptCheck.errorAt(START + "bed 0 1 1 ^0;", 2);
        ScriptCheck.errorAt(START + "bed 0 1 99 ^98;", 2);
        ScriptCheck.errorAt(START + "peacocks 1 ^0;", 2);
        ScriptCheck.errorAt(START + "peacocks 95 ^94;", 2);
        ScriptCheck.fine(START + "bed 0 1 0 0;bed 0 1 99 99;peacocks 0 0;peacocks 95 95;", 2);
    }

    private static void checkPrices() {
        Check.about(4, "3, a 6th PRICE of \"garden\"");
        ScriptCheck.fine("garden 1 2 3 4 5;", 0);
        ScriptCheck.errorAt("garden 1 2 3 4 5 ^6;", 3);
        ScriptCheck.errorAt("garden 1 2 3 4 5 ^6", 3);
        ScriptCheck.errorAt("garden 1 2 3 4 5 ^1 x", 3);
        ScriptCheck.errorAt("garden 1 2 3 4 5 ^99 7 8;", 3);
        Check.about(4, "There is one scent for each PRICE of \"garden\"");
        for (int scents = 1; scents <= 5; scents++) {
            GardenBureau bureau = Feed.bureau("garden" + " 7".repeat(scents) + ";");
            int count = scents;
            Check.same("setPrice of the last scent", bureau.setPrice(scents - 1, 8), 7);
            Check.throwsIndex("setPrice of scent " + scents, () -> bureau.setPrice(count, 8));
        }
    }

    private static void checkEndOfText() {
        Check.about(4, "the end of the text inside a statement (the offset is then the length of the text)");
        for (String text : new String[] {"", "garden", "garden 9", "garden 9 9", "garden 9;sell 1 0 1 adult"}) {
            ScriptCheck.error(text, 1, text.length());
            ScriptCheck.error(text + "\n ", 1, text.length() + 2);
            ScriptCheck.error(" " + text, 1, text.length() + 1);
        }
        ScriptCheck.fine("garden 9;", 0);
        ScriptCheck.fine("garden 9; \n \n", 0);
    }

    private static void checkNotExecutable() {
        Check.about(4, "4, a command that cannot be executed because the method would throw an IllegalStateException");
        String eightBeds = "garden 9;" + "bed 0 1 0 0;".repeat(8);
        ScriptCheck.fine(eightBeds, 0);
        ScriptCheck.errorAt(eightBeds + "bed 0 1 0 0^;", 4);
        String thirtyPasses = "garden 9;" + "sell1 0 1child;".repeat(30);
        ScriptCheck.errorAt(thirtyPasses + "sell1 0 1child^;", 4);
        String lastTick = "garden 9;" + "pass 500;".repeat(19);
        ScriptCheck.fine(lastTick + "pass 99;", 0);
        ScriptCheck.errorAt(lastTick + "pass 100^;", 4);
        ScriptCheck.errorAt(lastTick + "pass 99;pass 1 ^;", 4);
        ScriptCheck.errorAt(START + "pass 32;pluck 0 1^;", 4);
        ScriptCheck.errorAt(VISITED + "pass 1;pluck 0 1^;", 4);
        ScriptCheck.errorAt(VISITED + "lost 0;pluck 0 1^;", 4);
        ScriptCheck.errorAt(VISITED + "pluck 0 9;pluck 0 9;pluck 0 3^;", 4);
        ScriptCheck.fine(VISITED + "pluck 0 9;pluck 0 9;pluck 0 2;", 2);
        ScriptCheck.errorAt(FINED + "pay 0 5^;", 4);
        ScriptCheck.fine(FINED + "pay 0 4;", 2);
        ScriptCheck.errorAt(START + "pay 0 1^;", 4);
        ScriptCheck.errorAt(START + "lost 0;lost 0^;", 4);
        ScriptCheck.errorAt(START + "refund 0;lost 0^;", 4);
        ScriptCheck.errorAt(START + "replace 0^;", 4);
        ScriptCheck.errorAt(START + "refund 0;replace 0^;", 4);
        ScriptCheck.errorAt(START + "lost 0;refund 0;replace 0^;", 4);
        ScriptCheck.errorAt(START + "refund 0;refund 0^;", 4);
        Check.about(4, "the offset is that of the semicolon behind the command");
        ScriptCheck.errorAt(START + "replace 0 \n\n ^;pass 1;", 4);
        ScriptCheck.errorAt(START + "replace 0^;;", 4);
    }

    private static void checkRefusedVisits() {
        Check.about(4, "and a visit that is refused");
        ScriptCheck.errorAt(START + "pass 31;visit 0 0^;", 4);
        ScriptCheck.fine(START + "pass 32;visit 0 0;", 2);
        ScriptCheck.fine(START + "pass 67;visit 0 0;", 2);
        ScriptCheck.errorAt(START + "pass 68;visit 0 0^;", 4);
        ScriptCheck.errorAt(START + "pass 50;visit 0 0^;", 4);
        ScriptCheck.errorAt(START + "pass 32;lost 0;visit 0 0^;", 4);
        ScriptCheck.errorAt(START + "pass 128;visit 0 0^;", 4);
        ScriptCheck.errorAt(START + "bed 1 1 0 0;pass 32;visit 0 2^;", 4);
        ScriptCheck.errorAt(VISITED + "pluck 0 8;pass 1;visit 0 0^;", 4);
        ScriptCheck.fine(VISITED + "pluck 0 8;pay 0 2;pass 1;visit 0 0;", 2);
        ScriptCheck.errorAt(START + "pass 32;visit 0 0;visit 0 1^;", 4);
        ScriptCheck.errorAt(START + "pass 32;visit 0 0;visit 1 0^;", 4);
    }

    private static void checkFirstAndSmallest() {
        Check.about(4, "The first error in the text is reported with the offset of the first byte of its token");
        ScriptCheck.errorAt(START + "replace 0^;bed 9 9 9 9;x", 4);
        ScriptCheck.errorAt(START + "bed ^9 1 0 0;replace 0;x", 2);
        ScriptCheck.errorAt(START + "^x;replace 0;bed 9 1 0 0;", 1);
        ScriptCheck.errorAt("garden ^0 1 2 3 4 5;", 2);
        ScriptCheck.errorAt("garden 1 2 3 4 5 ^6 0 x", 3);
        ScriptCheck.errorAt("garden 1 2 3 4 ^x 6;", 1);
        ScriptCheck.errorAt("garden 1 2 3 4 5 ^?6;", 1);
        ScriptCheck.errorAt(START + "sell 1 ^100 0 x?", 2);
        Check.about(4, "if several kinds apply to one token, the smallest one is reported");
        ScriptCheck.errorAt("garden 1 2 3 4 5 ^0;", 2);
        ScriptCheck.errorAt("garden 1 2 3 4 5 ^100;", 2);
        ScriptCheck.errorAt("garden 1 2 3 4 5 ^9999;", 2);
        ScriptCheck.errorAt("garden 1 2 3 4 5 ^10000;", 1);
        ScriptCheck.errorAt(START + "replace 0 ^0;", 1);
        ScriptCheck.errorAt(START + "replace 0^", 1);
        ScriptCheck.errorAt(START + "pass ^99999;", 1);
    }

    private static void messy(GardenBureau bureau) {
        bureau.writePass(1);
        bureau.setRate(19);
        bureau.setPause(7);
        bureau.setPeacocks(32, 66);
        bureau.saveSnapshot();
        bureau.layBed(2, 20, 0, 99);
        bureau.refundPass(2);
        bureau.visit(0, 0);
        bureau.setPrice(1, 99);
        bureau.pass(96);
    }

    private static void checkWhatAnErrorLeaves() {
        Check.about(4, "If the script has an error, only the input buffer and the script error change");
        String before = Probe.outsideInput(ScriptEdges::messy);
        for (String text : new String[] {"", "garden 9;bed", FINED + "x", FINED + "pass 501;", "garden 1 2 3 4 5 6;",
            VISITED + "pluck 0 9;pluck 0 9;pluck 0 9;", START + "lost 0;pass 32;visit 0 0;"}) {
            Check.same("all else behind <" + text + ">", Probe.outsideInput(bureau -> {
                messy(bureau);
                Feed.run(bureau, text);
            }), before);
        }
    }

    private static void checkWhatAScriptReplaces() {
        Check.about(4, "A script without an error replaces everything");
        for (String text : new String[] {"garden 9;", FINED, START + "refund 1;"}) {
            Check.same("the state behind <" + text + ">", Probe.state(bureau -> {
                messy(bureau);
                Recipes.eightBeds(bureau);
                Feed.run(bureau, text);
            }), Probe.state(bureau -> Feed.run(bureau, text)));
        }
        String accounts = FINED + "pay 0 1;sell 1 5 1 child;refund 2;";
        for (String text : new String[] {"garden 9;", START, VISITED, accounts}) {
            Check.same("the state behind other scripts and <" + text + ">", Probe.state(bureau -> {
                Feed.run(bureau, accounts + "peacocks 0 95;");
                Feed.run(bureau, START + "pass 32;lost 0;visit 0 0;");
                Feed.run(bureau, text);
            }), Probe.state(bureau -> Feed.run(bureau, text)));
        }
        GardenBureau bureau = Probe.make(ScriptEdges::messy);
        Feed.run(bureau, START);
        Check.same("visits", bureau.visitsPerDay(), 0.0);
        Check.same("takings", bureau.takings(), 18);
        Check.about(20, "each successful script, can be undone");
        Check.same("undoCount()", bureau.undoCount(), 8);
        Check.same("undo()", bureau.undo(), 7);
        Check.same("the state before the script", Picture.of(bureau), Picture.of(Probe.make(ScriptEdges::messy)));
    }

    // What each command does at its least and its greatest numbers is what its method does.
    private static void checkCommands() {
        Check.about(4, "Commands are executed one after the other");
        GardenBureau bureau = Feed.bureau("garden 1 99;bed 1 20 99 99;bed 0 1 0 99;sell 3 0 14 child;sell 1 99 1 adult;pass 32;"
                + "visit 0 1;pluck 0 9;pay 0 1;lost 0;replace 0;refund 1;pass 500;peacocks 33 67;");
        GardenBureau called = Feed.bureau("garden 1 99;");
        called.layBed(1, 20, 99, 99);
        called.layBed(0, 1, 0, 99);
        called.sell(3, 0, 14, GardenBureau.CHILD);
        called.sell(1, 99, 1, GardenBureau.ADULT);
        called.pass(32);
        called.visit(0, 1);
        called.pluck(0, 9);
        called.payFines(0, 1);
        called.reportLost(0);
        called.replaceCard(0);
        called.refundPass(1);
        called.pass(500);
        called.setPeacocks(33, 67);
        Check.same("the state", Picture.of(bureau), Picture.of(called));
        Check.same("ticksUntilOpen()", bureau.ticksUntilOpen(), 76);
        Check.same("takings()", bureau.takings(), 672 + 1 + 1 + 5);
        Check.same("ticksUntilOpen() if the peacocks always walk", Feed.bureau("garden 9;peacocks 0 95;").ticksUntilOpen(), -1);
        Check.same("ticksUntilOpen() if they walk in the last tick", Feed.bureau("garden 9;peacocks 95 95;").ticksUntilOpen(), 32);
    }

    private static void checkErrorCalls() {
        Check.about(24, "0 if it had no error or no script was run");
        GardenBureau bureau = new GardenBureau();
        Check.same("kind", bureau.scriptErrorKind(), 0);
        Check.about(25, "NONE if scriptErrorKind() is 0");
        Check.same("offset", bureau.scriptErrorOffset(), GardenBureau.NONE);
        String[] texts = {"x", "garden 9;", "garden 100;", "garden 9;", "garden 1 2 3 4 5 6;", "garden 9;sell 1 0 1 child;",
            START + "replace 0;", "garden 9;"};
        int[] kinds = {1, 0, 2, 0, 3, 0, 4, 0};
        int[] offsets = {0, -1, 7, -1, 17, -1, START.length() + 9, -1};
        for (int index = 0; index < texts.length; index++) {
            Feed.run(bureau, texts[index]);
            Check.about(24, "Returns the kind (1 to 4) of the error of the latest script");
            Check.same("kind of <" + texts[index] + ">", bureau.scriptErrorKind(), kinds[index]);
            Check.about(25, "Returns the offset of the error of the latest script");
            Check.same("offset of <" + texts[index] + ">", bureau.scriptErrorOffset(), offsets[index]);
        }
        Feed.run(bureau, "garden ;");
        bureau.undo();
        bureau.saveSnapshot();
        bureau.restoreSnapshot();
        Feed.put(bureau, "garden 9;");
        Check.about(24, "Undoing restores everything except the input buffer, the script error, the report and the snapshot");
        Check.same("kind", bureau.scriptErrorKind(), 1);
        Check.about(25, "Undoing restores everything except the input buffer, the script error, the report and the snapshot");
        Check.same("offset", bureau.scriptErrorOffset(), 7);
    }
}
