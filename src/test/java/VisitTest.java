/** Promises 9, 16, 47 and 51 to 53: setPause, visit, ticksUntilReady, whyRefused, sign and bedsFor. */
public final class VisitTest {
    private VisitTest() {
    }

    public static void main(String[] args) {
        checkPause();
        checkWrongPauses();
        checkVisit();
        checkAlarms();
        checkReasons();
        checkOrderOfReasons();
        checkDaysOfPass();
        checkFinesOpen();
        checkTooSoon();
        checkReplacedCard();
        checkBedsFor();
        checkNumbersThatAreNot();
        Check.end("VisitTest");
    }

    private static void refused(GardenBureau bureau, int card, int bed, int reason) {
        String what = "card " + card + " at bed " + bed + " at " + bureau.time();
        int sign = reason == GardenBureau.ALLOWED ? GardenBureau.NODS
                : reason == GardenBureau.FINES_OPEN ? GardenBureau.POINTS : GardenBureau.SHAKES;
        Check.same("whyRefused, " + what, bureau.whyRefused(card, bed), reason);
        Check.same("sign, " + what, bureau.sign(card, bed), sign);
        Check.same("bedsFor, " + what, bureau.bedsFor(card) >> bed & 1, reason == GardenBureau.ALLOWED ? 1 : 0);
        String before = Picture.of(bureau);
        Check.same("visit, " + what, bureau.visit(card, bed), reason);
        if (reason != GardenBureau.ALLOWED && reason != GardenBureau.CARD_BLOCKED) {
            Check.same("state, " + what, Picture.of(bureau), before);
        }
    }

    private static void checkPause() {
        GardenBureau bureau = new GardenBureau();
        Check.same("setPause", bureau.setPause(8), 1);
        Check.same("ticksUntilReady", bureau.ticksUntilReady(1), 8);
        Check.same("ticksUntilReady", bureau.ticksUntilReady(0), 6);
        Check.same("ticksUntilReady", bureau.ticksUntilReady(2), 0);
        Check.same("setPause", bureau.setPause(0), 8);
        Check.same("ticksUntilReady", bureau.ticksUntilReady(1), 0);
        Check.same("setPause", bureau.setPause(3), 0);
        for (int wait = 3; wait >= 0; wait--) {
            Check.same("ticksUntilReady", bureau.ticksUntilReady(1), wait);
            Check.same("whyRefused", bureau.whyRefused(1, 1), wait > 0 ? GardenBureau.TOO_SOON : GardenBureau.ALLOWED);
            bureau.pass(1);
        }
        Check.same("ticksUntilReady", bureau.ticksUntilReady(1), 0);
        Check.same("undoCount", bureau.undoCount(), 7);
    }

    private static void checkWrongPauses() {
        GardenBureau bureau = new GardenBureau();
        Check.throwsArgument("pause -1", () -> bureau.setPause(-1));
        Check.throwsArgument("pause 9", () -> bureau.setPause(9));
        Check.same("setPause", bureau.setPause(1), 1);
        GardenBureau fresh = Feed.bureau("garden 9;sell 1 0 1 adult;bed 0 1 0 0;peacocks 95 95;");
        fresh.setPause(8);
        Check.same("no visit at time 0", fresh.ticksUntilReady(0), 0);
    }

    private static void checkVisit() {
        GardenBureau bureau = new GardenBureau();
        bureau.pass(1);
        Check.same("visit", bureau.visit(1, 0), GardenBureau.ALLOWED);
        Check.same("visitsTo", bureau.visitsTo(0), 3);
        Check.same("visitsWith", bureau.visitsWith(1), 3);
        Check.same("placesLeft", bureau.placesLeft(0), 1);
        Check.same("alarms", bureau.alarms(), 0);
        Check.same("a refused visit is a change", bureau.visit(1, 0), GardenBureau.TOO_SOON);
        Check.same("undoCount", bureau.undoCount(), 3);
        Check.throwsIndex("card 3", () -> bureau.visit(3, 0));
        Check.throwsIndex("bed 3", () -> bureau.visit(0, 3));
    }

    private static void checkAlarms() {
        GardenBureau bureau = new GardenBureau();
        Check.same("whyRefused raises no alarm", bureau.whyRefused(0, 0), GardenBureau.CARD_BLOCKED);
        Check.same("sign raises no alarm", bureau.sign(0, 0), GardenBureau.SHAKES);
        Check.same("alarms", bureau.alarms(), 0);
        Check.same("visit", bureau.visit(0, 0), GardenBureau.CARD_BLOCKED);
        Check.same("alarms", bureau.alarms(), 1);
        Check.same("visit", bureau.visit(0, 2), GardenBureau.CARD_BLOCKED);
        Check.same("alarms", bureau.alarms(), 2);
        bureau.pass(8);
        Check.same("visit", bureau.visit(0, 0), GardenBureau.GARDEN_CLOSED);
        Check.same("no alarm if the garden is closed", bureau.alarms(), 2);
        bureau.undo();
        bureau.undo();
        bureau.undo();
        Check.same("alarms", bureau.alarms(), 1);
    }

    private static void checkReasons() {
        GardenBureau bureau = new GardenBureau();
        refused(bureau, 0, 0, GardenBureau.CARD_BLOCKED);
        refused(bureau, 2, 0, GardenBureau.NOT_TODAY);
        refused(bureau, 1, 2, GardenBureau.WRONG_SCENT);
        refused(bureau, 1, 0, GardenBureau.TOO_SOON);
        bureau.pass(1);
        refused(bureau, 1, 1, GardenBureau.ALLOWED);
        bureau.sell(2, 0, 1, 0);
        refused(bureau, 3, 1, GardenBureau.BED_FULL);
        bureau.pass(1);
        refused(bureau, 3, 1, GardenBureau.ALLOWED);
        bureau.pass(6);
        refused(bureau, 3, 1, GardenBureau.GARDEN_CLOSED);
        bureau.pass(4);
        refused(bureau, 3, 1, GardenBureau.ALLOWED);
        bureau.pass(13);
        refused(bureau, 3, 1, GardenBureau.ALLOWED);
        bureau.pass(1);
        refused(bureau, 3, 1, GardenBureau.GARDEN_CLOSED);
    }

    // Each step takes away the first reason that is left.
    private static void checkOrderOfReasons() {
        GardenBureau bureau = new GardenBureau();
        bureau.setRate(20);
        bureau.sell(2, 0, 1, 0);
        bureau.visit(3, 1);
        bureau.pluck(3, 2);
        Feed.passTo(bureau, 43);
        bureau.setPause(8);
        bureau.sell(3, 0, 1, 0);
        bureau.visit(4, 1);
        bureau.setPeacocks(43, 43);
        bureau.reportLost(3);
        refused(bureau, 3, 0, GardenBureau.GARDEN_CLOSED);
        bureau.setPeacocks(0, 0);
        refused(bureau, 3, 0, GardenBureau.CARD_BLOCKED);
        bureau.replaceCard(3);
        refused(bureau, 5, 0, GardenBureau.WRONG_SCENT);
        refused(bureau, 5, 1, GardenBureau.FINES_OPEN);
        bureau.payFines(3, 10);
        refused(bureau, 5, 1, GardenBureau.TOO_SOON);
        bureau.setPause(1);
        refused(bureau, 5, 1, GardenBureau.BED_FULL);
        bureau.sell(1, 1, 1, 0);
        refused(bureau, 6, 1, GardenBureau.NOT_TODAY);
        bureau.reportLost(5);
        refused(bureau, 6, 1, GardenBureau.CARD_BLOCKED);
    }

    private static void checkDaysOfPass() {
        GardenBureau bureau = Feed.bureau("garden 9;bed 0 9 0 9;sell 1 1 2 adult;");
        int[] due = {GardenBureau.NOT_TODAY, GardenBureau.ALLOWED, GardenBureau.ALLOWED, GardenBureau.NOT_TODAY};
        for (int day = 0; day < due.length; day++) {
            Feed.passTo(bureau, day * 96 + 32);
            refused(bureau, 0, 0, due[day]);
        }
        Check.same("usedDays", bureau.usedDays(0), 2);
    }

    private static void checkFinesOpen() {
        GardenBureau bureau = new GardenBureau();
        bureau.setRate(1);
        bureau.pluck(1, 9);
        bureau.pass(1);
        Check.same("owed", bureau.owed(1), 30);
        refused(bureau, 1, 0, GardenBureau.ALLOWED);
        bureau.setRate(1);
        bureau.pluck(1, 1);
        bureau.pass(1);
        Check.same("owed", bureau.owed(1), 32);
        refused(bureau, 1, 0, GardenBureau.FINES_OPEN);
        bureau.payFines(1, 1);
        refused(bureau, 1, 1, GardenBureau.FINES_OPEN);
        bureau.payFines(1, 1);
        refused(bureau, 1, 1, GardenBureau.ALLOWED);
    }

    private static void checkTooSoon() {
        GardenBureau bureau = new GardenBureau();
        bureau.setPause(2);
        bureau.pass(1);
        refused(bureau, 1, 1, GardenBureau.TOO_SOON);
        bureau.pass(1);
        refused(bureau, 1, 1, GardenBureau.ALLOWED);
        Check.same("ticksUntilReady", bureau.ticksUntilReady(1), 2);
        bureau.setPause(0);
        refused(bureau, 1, 0, GardenBureau.ALLOWED);
    }

    private static void checkReplacedCard() {
        GardenBureau bureau = new GardenBureau();
        bureau.reportLost(1);
        bureau.replaceCard(1);
        refused(bureau, 1, 0, GardenBureau.CARD_BLOCKED);
        refused(bureau, 3, 0, GardenBureau.TOO_SOON);
        bureau.pass(1);
        refused(bureau, 3, 0, GardenBureau.ALLOWED);
        Check.same("visitsWith", bureau.visitsWith(1), 3);
    }

    private static void checkBedsFor() {
        GardenBureau bureau = new GardenBureau();
        bureau.setPause(0);
        bureau.layBed(2, 1, 0, 0);
        bureau.layBed(1, 1, 0, 0);
        bureau.layBed(0, 1, 0, 0);
        Check.same("bedsFor", bureau.bedsFor(1), 0b110011);
        bureau.visit(1, 5);
        Check.same("bedsFor", bureau.bedsFor(1), 0b010011);
        bureau.addScent(1, 2);
        Check.same("bedsFor", bureau.bedsFor(1), 0b011111);
        Check.same("a blocked card", bureau.bedsFor(0), 0);
        Check.same("a card of another day", bureau.bedsFor(2), 0);
        Check.same("alarms", bureau.alarms(), 0);
        Check.same("all beds", Feed.bureau("garden 9;" + "bed 0 1 0 0;".repeat(8) + "sell 1 0 1 adult;pass 32;").bedsFor(0), 255);
    }

    private static void checkNumbersThatAreNot() {
        GardenBureau bureau = new GardenBureau();
        for (int number : new int[] {-1, 3, 50, Integer.MIN_VALUE, Integer.MAX_VALUE}) {
            Check.throwsIndex("visit", () -> bureau.visit(number, 0));
            Check.throwsIndex("visit", () -> bureau.visit(1, number));
            Check.throwsIndex("ticksUntilReady", () -> bureau.ticksUntilReady(number));
            Check.throwsIndex("whyRefused", () -> bureau.whyRefused(number, 0));
            Check.throwsIndex("whyRefused", () -> bureau.whyRefused(1, number));
            Check.throwsIndex("sign", () -> bureau.sign(number, 0));
            Check.throwsIndex("sign", () -> bureau.sign(1, number));
            Check.throwsIndex("bedsFor", () -> bureau.bedsFor(number));
        }
        Check.same("undoCount", bureau.undoCount(), 0);
    }
}
