import java.util.NoSuchElementException;

/** The edges of the promises 20 to 23: what is undone and how often, and the snapshot. */
final class UndoEdges {
    private static final int NONE = GardenBureau.NONE;
    private static final int ADULT = GardenBureau.ADULT;
    private static final String EXCEPT = "Undoing restores everything except the input buffer, the script error, the report and the "
            + "snapshot";

    // Each of the changes once, with the least that can be changed, and some that change nothing that can be seen.
    private static final Probe.Acts[] CHANGES = {
        bureau -> Feed.run(bureau, "garden 9;"),
        bureau -> bureau.setPrice(2, 14),
        bureau -> bureau.setPrice(2, 15),
        bureau -> bureau.setRate(1),
        bureau -> bureau.setRate(2),
        bureau -> bureau.layBed(0, 1, 0, 0),
        bureau -> bureau.setPeacocks(42, 42),
        bureau -> bureau.setPeacocks(50, 53),
        bureau -> bureau.setPause(0),
        bureau -> bureau.setPause(1),
        bureau -> bureau.sell(7, 0, 14, ADULT),
        bureau -> bureau.extend(0, 1),
        bureau -> bureau.addScent(0, 1),
        bureau -> bureau.reportLost(1),
        bureau -> bureau.replaceCard(0),
        bureau -> bureau.refundPass(1),
        bureau -> bureau.refundPass(0),
        bureau -> bureau.visit(1, 0),
        bureau -> bureau.visit(0, 0),
        bureau -> bureau.pluck(1, 9),
        bureau -> bureau.payFines(1, 12),
        bureau -> bureau.pass(1),
        bureau -> bureau.pass(500),
    };

    private UndoEdges() {
    }

    static void check() {
        checkNothingToUndo();
        checkEachChange();
        checkEightChanges();
        checkOrder();
        checkWhatUndoLeaves();
        checkNoSnapshot();
        checkSaveSnapshot();
        checkRestoreSnapshot();
        checkSnapshotAtTheEnds();
    }

    private static void checkNothingToUndo() {
        Check.about(20, "or NONE if there was nothing to undo");
        Check.same("undo()", new GardenBureau().undo(), NONE);
        Check.same("undo() of nothing leaves all", Probe.all(GardenBureau::undo), Probe.all(Recipes::nothing));
        Check.about(21, "Returns the number of changes that can be undone");
        Check.same("undoCount()", new GardenBureau().undoCount(), 0);
        for (Probe.Acts change : CHANGES) {
            GardenBureau bureau = Probe.make(change);
            Check.about(21, "Returns the number of changes that can be undone");
            Check.same("undoCount() behind one change", bureau.undoCount(), 1);
            Check.about(20, "Returns the number of changes that can still be undone");
            Check.same("undo()", bureau.undo(), 0);
            Check.same("undo() again", bureau.undo(), NONE);
            Check.about(21, "Returns the number of changes that can be undone");
            Check.same("undoCount()", bureau.undoCount(), 0);
        }
    }

    private static void checkEachChange() {
        Check.about(20, "Each call of a change that does not throw an exception, and each successful script, can be undone");
        String before = Probe.state(Recipes::nothing);
        for (int change = 0; change < CHANGES.length; change++) {
            Probe.Acts acts = CHANGES[change];
            Check.same("the state behind the undone change " + change, Probe.state(bureau -> {
                acts.on(bureau);
                bureau.undo();
            }), before);
        }
        Check.same("undo of a full bureau's script", Probe.state(bureau -> {
            Recipes.eightBeds(bureau);
            Recipes.thirtyPasses(bureau);
            Feed.run(bureau, "garden 1;bed 0 20 99 99;sell 1 99 14 child;pass 500;");
            bureau.undo();
        }), Probe.state(bureau -> {
            Recipes.eightBeds(bureau);
            Recipes.thirtyPasses(bureau);
        }));
        Check.same("undo of the 50th card", Probe.state(bureau -> {
            Recipes.fiftyCards(bureau);
            bureau.undo();
            bureau.replaceCard(0);
        }), Probe.state(Recipes::fiftyCards));
        Check.same("the bed of the latest visit", Probe.make(bureau -> {
            bureau.setPause(0);
            bureau.visit(1, 1);
            bureau.visit(1, 0);
            bureau.undo();
        }).pluck(1, 1), 2);
        Check.same("the rate of a failing script's undo", Probe.state(bureau -> {
            bureau.setRate(9);
            Feed.run(bureau, "garden 9;bed");
            bureau.undo();
        }), before);
    }

    private static void checkEightChanges() {
        for (int changes : new int[] {1, 7, 8, 9, 15, 16, 17, 100}) {
            GardenBureau bureau = new GardenBureau();
            for (int change = 1; change <= changes; change++) {
                bureau.setPrice(0, change % 99 + 1);
                Check.about(21, "the bureau remembers the latest 8");
                Check.same("undoCount() behind " + change + " changes", bureau.undoCount(), Math.min(8, change));
            }
            int left = Math.min(8, changes);
            for (int undone = 1; undone <= left; undone++) {
                Check.about(20, "the latest one first; the bureau remembers the latest 8");
                Check.same("undo() of " + changes + " changes", bureau.undo(), left - undone);
                int price = undone == changes ? 30 : (changes - undone) % 99 + 1;
                Check.same("the price behind it", bureau.quote(1, 1, ADULT), price);
            }
            Check.same("undo()", bureau.undo(), NONE);
            Check.same("the price behind it", bureau.quote(1, 1, ADULT), changes <= 8 ? 30 : (changes - 8) % 99 + 1);
        }
    }

    private static void checkOrder() {
        Check.about(20, "Undoes the latest change that has not been undone");
        GardenBureau bureau = new GardenBureau();
        for (int rate = 3; rate <= 12; rate++) {
            bureau.setRate(rate);
        }
        bureau.undo();
        bureau.undo();
        bureau.setRate(20);
        Check.same("undoCount()", bureau.undoCount(), 7);
        bureau.setRate(19);
        bureau.setRate(18);
        Check.same("undoCount()", bureau.undoCount(), 8);
        int[] rates = {19, 20, 10, 9, 8, 7, 6, 5};
        for (int index = 0; index < rates.length; index++) {
            Check.same("undo()", bureau.undo(), 7 - index);
            Check.same("fineFor(1, 1)", bureau.fineFor(1, 1), rates[index]);
        }
        Check.same("undo()", bureau.undo(), NONE);
        Check.same("a change behind all that is undone", bureau.setRate(1), 5);
        Check.same("undo()", bureau.undo(), 0);
        Check.same("fineFor(1, 1)", bureau.fineFor(1, 1), 5);
    }

    private static void checkWhatUndoLeaves() {
        Check.about(20, EXCEPT);
        for (Probe.Acts change : CHANGES) {
            GardenBureau bureau = new GardenBureau();
            bureau.saveSnapshot();
            change.on(bureau);
            bureau.pass(3);
            Feed.run(bureau, "garden 0;");
            bureau.append(0, 0, 0, 0, 0);
            boolean written = Check.thrownBy(() -> bureau.writePass(1)).equals("nothing");
            bureau.undo();
            bureau.undo();
            Check.same("the input", bureau.truncateInput(20), 20);
            Check.same("the error's kind", bureau.scriptErrorKind(), 2);
            Check.same("the error's offset", bureau.scriptErrorOffset(), 7);
            Check.same("the report", bureau.reportByte(0), written ? 'x' : NONE);
            Check.same("the snapshot", bureau.restoreSnapshot(), 42);
        }
        GardenBureau bureau = new GardenBureau();
        bureau.pass(1);
        bureau.saveSnapshot();
        bureau.undo();
        Check.same("a snapshot of a change that is undone", bureau.restoreSnapshot(), 43);
    }

    private static void checkNoSnapshot() {
        Check.about(23, "NoSuchElementException` if no snapshot was saved");
        Check.throwsExactly("restoreSnapshot()", NoSuchElementException.class, new GardenBureau()::restoreSnapshot);
        Probe.Acts changed = bureau -> {
            bureau.setRate(7);
            bureau.pass(1);
            bureau.undo();
        };
        Check.same("it leaves all as it was", Probe.all(bureau -> {
            changed.on(bureau);
            Check.thrownBy(bureau::restoreSnapshot);
        }), Probe.all(changed));
        GardenBureau scripted = Probe.make(Recipes::visited);
        Check.throwsExactly("restoreSnapshot() behind a script", NoSuchElementException.class, scripted::restoreSnapshot);
    }

    private static void checkSaveSnapshot() {
        Check.about(22, "This is not a change");
        GardenBureau bureau = new GardenBureau();
        Check.same("saveSnapshot()", bureau.saveSnapshot(), 42);
        Check.same("undoCount()", bureau.undoCount(), 0);
        Check.same("undo()", bureau.undo(), NONE);
        bureau.pass(1);
        Check.same("saveSnapshot()", bureau.saveSnapshot(), 43);
        Check.same("undoCount()", bureau.undoCount(), 1);
        Check.same("undo()", bureau.undo(), 0);
        Check.same("time()", bureau.time(), 42);
        Check.about(22, "Saves a snapshot of everything that undo restores, in place of an earlier one");
        Check.same("restoreSnapshot()", bureau.restoreSnapshot(), 43);
        Check.same("the state", Probe.state(other -> {
            Recipes.eightBeds(other);
            other.setPause(8);
            other.saveSnapshot();
            Recipes.visited(other);
            other.saveSnapshot();
            Feed.run(other, "garden 9;");
            other.restoreSnapshot();
        }), Probe.state(Recipes::visited));
        for (int change = 0; change < CHANGES.length; change++) {
            Probe.Acts acts = CHANGES[change];
            Check.same("the state before change " + change, Probe.state(other -> {
                other.saveSnapshot();
                acts.on(other);
                other.restoreSnapshot();
            }), Probe.state(Recipes::nothing));
        }
    }

    private static void checkRestoreSnapshot() {
        Check.about(23, "Nothing can be undone afterwards");
        GardenBureau bureau = new GardenBureau();
        bureau.saveSnapshot();
        for (int rate = 1; rate <= 9; rate++) {
            bureau.setRate(rate);
        }
        Check.same("restoreSnapshot()", bureau.restoreSnapshot(), 42);
        Check.same("undoCount()", bureau.undoCount(), 0);
        Check.same("undo()", bureau.undo(), NONE);
        for (int rate = 1; rate <= 9; rate++) {
            bureau.setRate(rate);
            Check.same("undoCount() of later changes", bureau.undoCount(), Math.min(8, rate));
        }
        for (int rate = 8; rate >= 1; rate--) {
            Check.same("undo()", bureau.undo(), rate - 1);
            Check.same("fineFor(1, 1)", bureau.fineFor(1, 1), rate);
        }
        Check.about(23, "Restores the snapshot, which stays saved");
        for (int time = 1; time <= 3; time++) {
            bureau.pass(time);
            bureau.refundPass(time - 1);
            Check.same("restoreSnapshot()", bureau.restoreSnapshot(), 42);
            Check.same("the state", Picture.of(bureau), Picture.of(new GardenBureau()));
            Check.same("restoreSnapshot() again", bureau.restoreSnapshot(), 42);
        }
        bureau.append(0, 0, 0, 0, 0);
        bureau.restoreSnapshot();
        Check.same("the input stays", bureau.truncateInput(20), 20);
        Feed.run(bureau, "garden 0;");
        bureau.restoreSnapshot();
        Check.same("the script's error stays", bureau.scriptErrorKind(), 2);
    }

    private static void checkSnapshotAtTheEnds() {
        Check.about(22, "Returns the time");
        GardenBureau bureau = Probe.make(Recipes::empty);
        Check.same("saveSnapshot() at time 0", bureau.saveSnapshot(), 0);
        Recipes.goTo(bureau, 9599);
        Check.about(23, "Returns the time of the snapshot");
        Check.same("restoreSnapshot() of time 0", bureau.restoreSnapshot(), 0);
        Check.same("time()", bureau.time(), 0);
        Recipes.goTo(bureau, 9599);
        Check.about(22, "Returns the time");
        Check.same("saveSnapshot() at the last time", bureau.saveSnapshot(), 9599);
        Feed.run(bureau, "garden 9;");
        Check.about(23, "Returns the time of the snapshot");
        Check.same("restoreSnapshot() of the last time", bureau.restoreSnapshot(), 9599);
        Check.throwsState("pass(1)", () -> bureau.pass(1));
    }
}
