import java.util.NoSuchElementException;

/** Promises 20 to 23: undo, undoCount, saveSnapshot and restoreSnapshot. */
public final class UndoTest {
    private static final String SCRIPT = "garden 9 8;bed 1 3 0 9;sell 3 0 2 adult;pass 33;visit 0 0;";

    private UndoTest() {
    }

    public static void main(String[] args) {
        for (int change = 0; change < 17; change++) {
            checkUndoOf(change);
        }
        checkCount();
        checkRows();
        checkWhatUndoLeaves();
        checkFullBureau();
        checkScripts();
        checkSnapshot();
        checkSnapshotAcrossScripts();
        Check.end("UndoTest");
    }

    private static void change(GardenBureau bureau, int change) {
        switch (change) {
            case 0 -> bureau.setPrice(1, 99);
            case 1 -> bureau.setRate(20);
            case 2 -> bureau.layBed(2, 20, 0, 99);
            case 3 -> bureau.setPeacocks(0, 95);
            case 4 -> bureau.setPause(8);
            case 5 -> bureau.sell(7, 0, 14, 1);
            case 6 -> bureau.extend(1, 8);
            case 7 -> bureau.addScent(1, 2);
            case 8 -> bureau.reportLost(1);
            case 9 -> bureau.replaceCard(0);
            case 10 -> bureau.refundPass(1);
            case 11 -> bureau.visit(0, 0);
            case 12 -> bureau.pluck(1, 9);
            case 13 -> bureau.payFines(1, 12);
            case 14 -> bureau.pass(500);
            case 15 -> Feed.run(bureau, SCRIPT);
            default -> Feed.run(bureau, "garden 1;");
        }
    }

    private static void checkUndoOf(int change) {
        GardenBureau bureau = new GardenBureau();
        bureau.setPause(0);
        bureau.visit(1, 1);
        String before = Picture.of(bureau);
        change(bureau, change);
        Check.same("change " + change + " is seen", Picture.of(bureau).equals(before), false);
        Check.same("undoCount behind change " + change, bureau.undoCount(), 3);
        Check.same("undo of change " + change, bureau.undo(), 2);
        Check.same("state behind the undo of change " + change, Picture.of(bureau), before);
        Check.same("pause", bureau.setPause(8), 0);
        bureau.undo();
        bureau.undo();
        bureau.undo();
        Check.same("all is undone", Picture.of(bureau), Picture.of(new GardenBureau()));
        Check.same("undo", bureau.undo(), GardenBureau.NONE);
    }

    private static void checkCount() {
        GardenBureau bureau = new GardenBureau();
        for (int rate = 1; rate <= 12; rate++) {
            Check.same("undoCount", bureau.undoCount(), Math.min(8, rate - 1));
            bureau.setRate(rate);
        }
        for (int left = 7; left >= 0; left--) {
            Check.same("undo", bureau.undo(), left);
            Check.same("undoCount", bureau.undoCount(), left);
            Check.same("rate", bureau.fineFor(1, 1), 4 + left);
        }
        Check.same("undo", bureau.undo(), GardenBureau.NONE);
        Check.same("undo", bureau.undo(), GardenBureau.NONE);
        Check.same("rate", bureau.fineFor(1, 1), 4);
        Check.same("a change behind", bureau.setRate(9), 4);
        Check.same("undo", bureau.undo(), 0);
        Check.throwsArgument("a call that throws", () -> bureau.setRate(0));
        Check.same("undoCount", bureau.undoCount(), 0);
        Check.same("refused visit", bureau.visit(1, 2), GardenBureau.WRONG_SCENT);
        Check.same("a refused visit can be undone", bureau.undoCount(), 1);
    }

    private static void checkRows() {
        GardenBureau bureau = new GardenBureau();
        bureau.setPause(0);
        bureau.visit(1, 1);
        bureau.visit(1, 0);
        bureau.undo();
        Check.same("pluck in the bed of the visit that is left", bureau.pluck(1, 1), 2);
        bureau.refundPass(0);
        bureau.pass(1);
        bureau.undo();
        Check.same("pass 0 is returned", bureau.isReturned(0), true);
        bureau.undo();
        Check.same("pass 0 is not returned", bureau.isReturned(0), false);
        bureau.layBed(0, 2, 0, 0);
        bureau.visit(1, 3);
        bureau.pluck(1, 1);
        bureau.undo();
        bureau.undo();
        bureau.undo();
        Check.same("the bed is laid again", bureau.layBed(1, 3, 1, 2), 3);
        Check.same("places", bureau.placesLeft(3), 3);
        Check.same("visits", bureau.visitsTo(3), 0);
        Check.same("blooms", bureau.blooms(3), 20);
        String before = Picture.of(bureau);
        bureau.sell(1, 0, 1, 0);
        bureau.visit(3, 0);
        bureau.pluck(3, 1);
        bureau.refundPass(3);
        for (int change = 0; change < 4; change++) {
            bureau.undo();
        }
        Check.same("the pass is gone", Picture.of(bureau), before);
        Check.same("the pass is sold again", bureau.sell(2, 0, 1, 0), 3);
        Check.same("returned", bureau.isReturned(3), false);
        Check.same("blocked", bureau.isBlocked(3), false);
        Check.same("owed", bureau.owed(3), 0);
        Check.same("used days", bureau.usedDays(3), 0);
        Check.same("visits", bureau.visitsWith(3), 0);
        Check.throwsState("no visit yet", () -> bureau.pluck(3, 1));
    }

    // 8 beds, 30 passes and 50 cards: every row is in use.
    private static void checkFullBureau() {
        GardenBureau bureau = new GardenBureau();
        for (int bed = 3; bed < 8; bed++) {
            bureau.layBed(0, 1, 0, 99);
        }
        bureau.replaceCard(0);
        for (int pass = 3; pass < 30; pass++) {
            bureau.sell(1, 0, 2, 0);
        }
        for (int pass = 3; pass < 22; pass++) {
            bureau.reportLost(pass);
            bureau.replaceCard(pass);
        }
        Check.same("beds", bureau.bedCount(), 8);
        Check.same("passes", bureau.passCount(), 30);
        Check.same("cards", bureau.cardCount(), 50);
        Check.same("visit", bureau.visit(49, 7), GardenBureau.ALLOWED);
        Check.same("pluck", bureau.pluck(49, 9), 36);
        String before = Picture.of(bureau);
        bureau.saveSnapshot();
        Check.same("the next day", bureau.pass(54), 96);
        Check.same("blooms", bureau.blooms(7), 14);
        Check.same("places", bureau.placesLeft(7), 1);
        Check.same("visits for each day", bureau.visitsPerDay(), 4.0 / 3.0);
        Check.same("blocked cards", bureau.blockedShare(), 20.0f / 50.0f);
        Check.same("violations", bureau.violations(), 0);
        bureau.undo();
        Check.same("undo", Picture.of(bureau), before);
        Feed.run(bureau, "garden 9;");
        bureau.restoreSnapshot();
        Check.same("restore", Picture.of(bureau), before);
    }

    private static void checkWhatUndoLeaves() {
        GardenBureau bureau = new GardenBureau();
        bureau.setRate(5);
        bureau.append(0, 0, 0, 0, 0);
        bureau.writePass(1);
        bureau.saveSnapshot();
        bureau.undo();
        Check.same("input", bureau.truncateInput(20), 20);
        Check.same("report", Picture.report(bureau, 6), "x.....");
        Check.same("snapshot", bureau.restoreSnapshot(), 42);
        Check.same("rate of the snapshot", bureau.setRate(1), 5);
        Feed.run(bureau, "garden;");
        bureau.undo();
        Check.same("script error", bureau.scriptErrorKind() * 10 + bureau.scriptErrorOffset(), 16);
    }

    private static void checkScripts() {
        GardenBureau bureau = new GardenBureau();
        bureau.setRate(5);
        bureau.writePass(1);
        String before = Picture.of(bureau);
        bureau.writePass(1);
        Check.same("script", Feed.run(bureau, SCRIPT), 1);
        Check.same("report behind a script", Picture.report(bureau, 6), "x.....");
        Check.same("undoCount", bureau.undoCount(), 2);
        bureau.pass(1);
        Check.same("a failing script", Feed.run(bureau, "garden 1"), GardenBureau.NONE);
        Check.same("undoCount", bureau.undoCount(), 3);
        bureau.undo();
        Check.same("undo of the script", bureau.undo(), 1);
        Check.same("state before the script", Picture.of(bureau), before);
    }

    private static void checkSnapshot() {
        GardenBureau bureau = new GardenBureau();
        Check.throwsExactly("no snapshot", NoSuchElementException.class, bureau::restoreSnapshot);
        bureau.setPause(4);
        bureau.pass(3);
        String saved = Picture.of(bureau);
        Check.same("saveSnapshot", bureau.saveSnapshot(), 45);
        Check.same("undoCount", bureau.undoCount(), 2);
        for (int change = 0; change < 10; change++) {
            change(bureau, change);
        }
        bureau.pass(100);
        Check.same("restoreSnapshot", bureau.restoreSnapshot(), 45);
        Check.same("state of the snapshot", Picture.of(bureau), saved);
        Check.same("undoCount", bureau.undoCount(), 0);
        Check.same("undo", bureau.undo(), GardenBureau.NONE);
        bureau.pass(1);
        Check.same("undoCount", bureau.undoCount(), 1);
        Check.same("the snapshot stays saved", bureau.restoreSnapshot(), 45);
        Check.same("state of the snapshot", Picture.of(bureau), saved);
        bureau.pass(7);
        Check.same("a later snapshot", bureau.saveSnapshot(), 52);
        bureau.pass(7);
        Check.same("in place of the earlier one", bureau.restoreSnapshot(), 52);
        bureau.setPeacocks(0, 0);
        bureau.saveSnapshot();
        bureau.layBed(0, 4, 0, 9);
        bureau.sell(1, 0, 1, 0);
        Check.same("visit of a bed that is forgotten", bureau.visit(bureau.cardCount() - 1, 3), GardenBureau.ALLOWED);
        bureau.restoreSnapshot();
        bureau.layBed(0, 4, 0, 9);
        Check.same("the bed is laid again", bureau.placesLeft(3), 4);
    }

    private static void checkSnapshotAcrossScripts() {
        GardenBureau bureau = new GardenBureau();
        String before = Picture.of(bureau);
        bureau.saveSnapshot();
        Feed.run(bureau, "garden 9;");
        Check.same("restoreSnapshot", bureau.restoreSnapshot(), 42);
        Check.same("state of the snapshot", Picture.of(bureau), before);
    }
}
