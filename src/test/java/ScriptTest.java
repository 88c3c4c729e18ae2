/** Promises 4, 24 and 25: runScript, scriptErrorKind and scriptErrorOffset. */
public final class ScriptTest {
    private static final String START = "garden 9;bed 0 1 0 9;sell 1 0 1 adult;";

    private ScriptTest() {
    }

    public static void main(String[] args) {
        checkReplacing();
        checkNothingStays();
        checkFailing();
        checkTokens();
        checkGarden();
        checkNumbers();
        checkWords();
        checkEnds();
        checkNotExecutable();
        checkFullBureau();
        checkCommands();
        checkOrder();
        Check.end("ScriptTest");
    }

    private static void checkReplacing() {
        GardenBureau bureau = new GardenBureau();
        bureau.setPause(5);
        bureau.setRate(7);
        bureau.setPeacocks(32, 67);
        bureau.visit(0, 0);
        Check.same("passes", Feed.run(bureau, "garden 9 8;bed 1 3 2 4;sell 3 1 2 adult;sell 1 99 14 child;"), 2);
        Check.same("input is empty", bureau.append(0, 0, 0, 0, 0), 20);
        bureau.truncateInput(0);
        Check.same("time", bureau.time(), 0);
        Check.same("until open", bureau.ticksUntilOpen(), 32);
        Check.same("beds", bureau.bedCount(), 1);
        Check.same("passes", bureau.passCount(), 2);
        Check.same("cards", bureau.cardCount(), 2);
        Check.same("blooms", bureau.blooms(0), 20);
        Check.same("visits", bureau.visitsTo(0), 0);
        Check.same("takings", bureau.takings(), 34 + 60);
        Check.same("alarms", bureau.alarms(), 0);
        Check.same("plucked", bureau.plucked(), 0);
        Check.same("owed", bureau.owed(0), 0);
        Check.same("undoCount", bureau.undoCount(), 5);
        Check.same("pause", bureau.setPause(1), 1);
        Check.same("rate", bureau.setRate(1), 2);
        Check.same("open ticks", bureau.setPeacocks(0, 0), 36);
        Check.throwsIndex("a third scent", () -> bureau.setPrice(2, 1));
        ScriptCheck.fine("garden 1;", 0);
    }

    private static void checkNothingStays() {
        GardenBureau bureau = new GardenBureau();
        Feed.run(bureau, START + "pass 32;visit 0 0;pluck 0 1;pay 0 4;sell 1 2 1 adult;refund 1;");
        Check.same("refunds", bureau.refunds(), 4);
        Feed.run(bureau, START + "lost 0;pass 32;visit 0 0;");
        Check.same("the alarm of a failing script", bureau.alarms(), 0);
        Feed.run(bureau, START);
        Check.same("alarms", bureau.alarms(), 0);
        Check.same("refunds", bureau.refunds(), 0);
        Check.same("fines paid", bureau.finesPaid(), 0);
        Check.same("plucked", bureau.plucked(), 0);
        Check.same("takings", bureau.takings(), 9);
        Check.same("blocked", bureau.isBlocked(0), false);
        Check.same("violations", bureau.violations(), 0);
        bureau.pass(32);
        Check.throwsState("no visit yet", () -> bureau.pluck(0, 1));
        Check.same("open ticks", bureau.isOpen(), true);
    }

    private static void checkFailing() {
        GardenBureau bureau = new GardenBureau();
        bureau.setRate(7);
        bureau.writePass(1);
        String before = Picture.of(bureau);
        Check.same("a failing script", Feed.run(bureau, "garden 9;bed 0 1 0 9;sell 1 0 1 adult;sell"), GardenBureau.NONE);
        Check.same("the state", Picture.of(bureau), before);
        Check.same("undoCount", bureau.undoCount(), 1);
        Check.same("input is empty", bureau.append(0, 0, 0, 0, 0), 20);
        Check.same("kind", bureau.scriptErrorKind(), 1);
        Check.same("offset", bureau.scriptErrorOffset(), 42);
        bureau.undo();
        Check.same("kind after undo", bureau.scriptErrorKind(), 1);
        Check.same("offset after undo", bureau.scriptErrorOffset(), 42);
        Feed.run(bureau, "garden 9;");
        Check.same("kind", bureau.scriptErrorKind(), 0);
        Check.same("offset", bureau.scriptErrorOffset(), GardenBureau.NONE);
        Check.same("input is empty", bureau.append(0, 0, 0, 0, 0), 20);
    }

    private static void checkTokens() {
        ScriptCheck.fine("garden9 8;bed0 1 0 9;sell1 0 1adult;\n", 1);
        ScriptCheck.fine(" \n garden\n9 8\n; bed 0\n1 0 9 ;sell 0001 0000 0014 child ; ", 1);
        ScriptCheck.errorAt("garden ^00009;", 1);
        ScriptCheck.errorAt("garden ^12345;", 1);
        ScriptCheck.errorAt("garden 9 ^12345;", 1);
        ScriptCheck.errorAt(START + "^12345", 1);
        ScriptCheck.errorAt("garden ^1234;", 2);
        ScriptCheck.errorAt("^gardens 9;", 1);
        ScriptCheck.errorAt("^Garden 9;", 1);
        ScriptCheck.errorAt("^gardenz 9;", 1);
        ScriptCheck.errorAt("garden^G 9;", 1);
        ScriptCheck.errorAt("garden^\t9;", 1);
        ScriptCheck.errorAt("garden^\r9;", 1);
        ScriptCheck.errorAt("garden 9^:", 1);
        ScriptCheck.errorAt("garden 9^/", 1);
        ScriptCheck.errorAt("garden 9^`", 1);
        ScriptCheck.errorAt("garden 9^{", 1);
        ScriptCheck.errorAt("garden ^-9;", 1);
        ScriptCheck.errorAt("garden 9;^\0", 1);
        ScriptCheck.errorAt("garden 9;^\u00e9", 1);
        ScriptCheck.errorAt("garden 9;bed 0 1 0 9^.", 1);
    }

    private static void checkGarden() {
        ScriptCheck.error("", 1, 0);
        ScriptCheck.error("  \n ", 1, 4);
        ScriptCheck.errorAt("^;", 1);
        ScriptCheck.errorAt("^bed 0 1 0 0;", 1);
        ScriptCheck.errorAt("^9", 1);
        ScriptCheck.errorAt("garden^;", 1);
        ScriptCheck.errorAt("garden^", 1);
        ScriptCheck.errorAt("garden ^bed", 1);
        ScriptCheck.errorAt("garden ^0;", 2);
        ScriptCheck.errorAt("garden ^100;", 2);
        ScriptCheck.fine("garden 1 99 50 1 99;", 0);
        ScriptCheck.errorAt("garden 1 2 3 4 5 ^6;", 3);
        ScriptCheck.errorAt("garden 1 2 3 4 5 ^99 100;", 3);
        ScriptCheck.errorAt("garden 1 2 3 4 5 ^100;", 2);
        ScriptCheck.errorAt("garden 1 2 3 4 5 ^0;", 2);
        ScriptCheck.errorAt("garden 1 2 3 4 5 ^10000;", 1);
        ScriptCheck.errorAt("garden 1 2 3 4 ^0 6;", 2);
        ScriptCheck.errorAt("garden 9 ^sell", 1);
        ScriptCheck.errorAt("garden 1 2 3 4 5 ^x", 1);
        ScriptCheck.errorAt("garden 9;^garden 9;", 1);
        ScriptCheck.errorAt("garden 9;^;", 1);
        ScriptCheck.errorAt("garden 9;^9;", 1);
        ScriptCheck.errorAt("garden 9;^beds 0 1 0 0;", 1);
        ScriptCheck.errorAt("garden 9;^be 0 1 0 0;", 1);
        ScriptCheck.errorAt("garden 9;^xed 0 1 0 0;", 1);
        ScriptCheck.errorAt("garden 9;^bee 0 1 0 0;", 1);
        ScriptCheck.errorAt("garden 9;^adult;", 1);
    }

    private static void checkNumbers() {
        ScriptCheck.errorAt(START + "bed ^1 1 0 0;", 2);
        ScriptCheck.errorAt(START + "bed 0 ^0 0 0;", 2);
        ScriptCheck.errorAt(START + "bed 0 ^21 0 0;", 2);
        ScriptCheck.errorAt(START + "bed 0 20 ^100 0;", 2);
        ScriptCheck.errorAt(START + "bed 0 20 99 ^98;", 2);
        ScriptCheck.errorAt(START + "bed 0 20 99 ^100;", 2);
        ScriptCheck.fine(START + "bed 0 20 99 99;", 1);
        ScriptCheck.errorAt(START + "sell ^0 0 1 adult;", 2);
        ScriptCheck.errorAt(START + "sell ^2 0 1 adult;", 2);
        ScriptCheck.errorAt(START + "sell 1 ^100 1 adult;", 2);
        ScriptCheck.errorAt(START + "pass 96;sell 1 ^0 1 adult;", 2);
        ScriptCheck.fine(START + "pass 95;sell 1 0 1 adult;", 2);
        ScriptCheck.fine(START + "pass 96;sell 1 1 1 adult;", 2);
        ScriptCheck.errorAt(START + "sell 1 99 ^0 adult;", 2);
        ScriptCheck.errorAt(START + "sell 1 99 ^15 adult;", 2);
        ScriptCheck.fine(START + "sell 1 99 14 adult;", 2);
        ScriptCheck.fine("garden 1 1 1 1 1;sell 31 0 1 child;", 1);
        ScriptCheck.errorAt("garden 1 1 1 1 1;sell ^32 0 1 child;", 2);
        ScriptCheck.errorAt(START + "pass 32;visit ^1 0;", 2);
        ScriptCheck.errorAt(START + "pass 32;visit 0 ^1;", 2);
        ScriptCheck.errorAt("garden 9;visit ^0 0;", 2);
        ScriptCheck.errorAt("garden 9;sell 1 0 1 adult;visit 0 ^0;", 2);
        ScriptCheck.errorAt(START + "pass 32;visit 0 0;pluck ^1 1;", 2);
        ScriptCheck.errorAt(START + "pass 32;visit 0 0;pluck 0 ^0;", 2);
        ScriptCheck.errorAt(START + "pass 32;visit 0 0;pluck 0 ^10;", 2);
        ScriptCheck.fine(START + "pass 32;visit 0 0;pluck 0 9;", 1);
        ScriptCheck.errorAt(START + "pay ^1 1;", 2);
        ScriptCheck.errorAt(START + "pay 0 ^0;", 2);
        ScriptCheck.errorAt(START + "pay 0 9999^;", 4);
        ScriptCheck.errorAt(START + "lost ^1;", 2);
        ScriptCheck.errorAt(START + "replace ^1;", 2);
        ScriptCheck.errorAt(START + "refund ^1;", 2);
        ScriptCheck.errorAt(START + "peacocks ^96 95;", 2);
        ScriptCheck.errorAt(START + "peacocks 95 ^94;", 2);
        ScriptCheck.errorAt(START + "peacocks 95 ^96;", 2);
        ScriptCheck.fine(START + "peacocks 95 95;peacocks 0 0;", 1);
        ScriptCheck.errorAt(START + "pass ^0;", 2);
        ScriptCheck.errorAt(START + "pass ^501;", 2);
        ScriptCheck.fine(START + "pass 500;", 1);
    }

    private static void checkWords() {
        ScriptCheck.errorAt(START + "sell 1 0 1 ^adults;", 1);
        ScriptCheck.errorAt(START + "sell 1 0 1 ^childs;", 1);
        ScriptCheck.errorAt(START + "sell 1 0 1 ^0;", 1);
        ScriptCheck.errorAt(START + "sell 1 0 1^;", 1);
        ScriptCheck.errorAt(START + "sell 1 0 ^adult;", 1);
        ScriptCheck.errorAt(START + "sell ^adult;", 1);
        ScriptCheck.errorAt(START + "sell 1 0 1 child ^0;", 1);
        ScriptCheck.errorAt(START + "sell 1 0 1 child ^child;", 1);
        ScriptCheck.errorAt(START + "bed 0 1 0 9 ^9;", 1);
        ScriptCheck.errorAt(START + "bed 0 1 0^;", 1);
        ScriptCheck.errorAt(START + "visit 0^;", 1);
        ScriptCheck.errorAt(START + "visit 0 0 ^pluck", 1);
        ScriptCheck.errorAt(START + "lost^;", 1);
        ScriptCheck.errorAt(START + "lost 0 ^0;", 1);
        ScriptCheck.errorAt(START + "pass ^x;", 1);
        ScriptCheck.errorAt(START + "pass 1 ^1;", 1);
        ScriptCheck.errorAt(START + "peacocks 1^;", 1);
        ScriptCheck.errorAt(START + "pay 0^;", 1);
        ScriptCheck.errorAt(START + "pluck 0^;", 1);
        ScriptCheck.errorAt(START + "replace^;", 1);
        ScriptCheck.errorAt(START + "refund^;", 1);
    }

    private static void checkEnds() {
        ScriptCheck.errorAt("garden 9^", 1);
        ScriptCheck.errorAt("garden 9  \n^", 1);
        ScriptCheck.errorAt("garden 9;bed^", 1);
        ScriptCheck.errorAt("garden 9;bed 0 1^", 1);
        ScriptCheck.errorAt("garden 9;bed 0 1 0 0  ^", 1);
        ScriptCheck.errorAt(START + "sell 1 0 1^", 1);
        ScriptCheck.errorAt(START + "sell 1 0 1 adult^", 1);
        ScriptCheck.errorAt(START + "replace 0^", 1);
        ScriptCheck.fine(START + "  \n", 1);
    }

    private static void checkNotExecutable() {
        ScriptCheck.errorAt(START + "visit 0 0^;", 4);
        ScriptCheck.errorAt(START + "pass 32;visit 0 0;visit 0 0^;", 4);
        ScriptCheck.errorAt(START + "pass 32;pluck 0 1^;", 4);
        ScriptCheck.errorAt(START + "pass 32;visit 0 0;pluck 0 9;pluck 0 9;pluck 0 3 ^;", 4);
        ScriptCheck.errorAt(START + "pass 32;visit 0 0;pluck 0 1;pay 0 5^;", 4);
        ScriptCheck.fine(START + "pass 32;visit 0 0;pluck 0 1;pay 0 1;pay 0 3;", 1);
        ScriptCheck.errorAt(START + "lost 0;lost 0^;", 4);
        ScriptCheck.errorAt(START + "replace 0^;", 4);
        ScriptCheck.errorAt(START + "lost 0;replace 0;replace 0^;", 4);
        ScriptCheck.errorAt(START + "refund 0;refund 0^;", 4);
        ScriptCheck.errorAt(START + "refund 0;replace 0^;", 4);
        ScriptCheck.errorAt(START + "refund 0;lost 0^;", 4);
        ScriptCheck.errorAt(START + "lost 0;pass 32;visit 0 0^;", 4);
        String almostAllDays = "garden 9;" + "pass 480;".repeat(19);
        ScriptCheck.fine(almostAllDays + "pass 479;", 0);
        ScriptCheck.errorAt(almostAllDays + "pass 480^;", 4);
    }

    private static void checkFullBureau() {
        String beds = "bed 0 1 0 0;".repeat(8);
        ScriptCheck.fine("garden 9;" + beds, 0);
        ScriptCheck.errorAt("garden 9;" + beds + "bed 0 1 0 0^;", 4);
        ScriptCheck.errorAt("garden 9;" + beds + "bed 0 1 ^100 0;", 2);
        // A 51st card finds no room in 500 bytes.
        String sells = "sell1 0 1child;".repeat(30);
        ScriptCheck.fine("garden 9;" + sells, 30);
        ScriptCheck.errorAt("garden 9;" + sells + "sell1 0 1child^;", 4);
        ScriptCheck.errorAt("garden 9;" + sells + "sell1 0 ^0child;", 2);
    }

    private static void checkCommands() {
        GardenBureau bureau = Feed.bureau("garden 10 20;bed 1 5 0 9;bed 0 6 1 9;sell 3 0 4 adult;sell 1 1 2 child;"
                + "peacocks 32 40;pass 41;visit 0 0;pluck 0 3;pay 0 5;lost 0;replace 0;pass 1;visit 2 1;refund 1;peacocks 42 44;");
        Check.same("time", bureau.time(), 42);
        Check.same("scents", bureau.scentOf(0) * 10 + bureau.scentOf(1), 10);
        Check.same("places", bureau.placesLeft(0) * 10 + bureau.placesLeft(1), 55);
        Check.same("in season", bureau.isInSeason(0), true);
        Check.same("in season", bureau.isInSeason(1), false);
        Check.same("blooms", bureau.blooms(0), 17);
        Check.same("price", bureau.priceOf(0), 108);
        Check.same("price", bureau.priceOf(1), 12);
        Check.same("first day", bureau.firstDay(1), 1);
        Check.same("last day", bureau.lastDay(1), 2);
        Check.same("owed", bureau.owed(0), 7);
        Check.same("fines paid", bureau.finesPaid(), 5);
        Check.same("card", bureau.cardOf(0), 2);
        Check.same("blocked", bureau.isBlocked(0), true);
        Check.same("visits", bureau.visitsWith(0), 2);
        Check.same("returned", bureau.isReturned(1), true);
        Check.same("refunds", bureau.refunds(), 6);
        Check.same("takings", bureau.takings(), 108 + 12 + 5 + 5 - 6);
        Check.same("ticks until open", bureau.ticksUntilOpen(), 3);
    }

    // The first error of the text counts, and the commands before it are executed before it is met.
    private static void checkOrder() {
        ScriptCheck.errorAt(START + "visit 0 0^;garden", 4);
        ScriptCheck.errorAt(START + "bed ^7 0 100 x", 2);
        ScriptCheck.errorAt(START + "visit 0 0 ^x;", 1);
        ScriptCheck.errorAt(START + "sell 1 0 1 child;lost 1;lost ^2;", 2);
        ScriptCheck.fine(START + "sell 1 0 1 child;lost 1;replace 1;lost 1;", 2);
    }
}
