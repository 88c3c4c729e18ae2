/** The edges of the promises 9, 16, 47 and 51 to 53: the pause, visits, and the reasons why a card is refused. */
final class VisitEdges {
    private static final int ALLOWED = GardenBureau.ALLOWED;
    private static final int ADULT = GardenBureau.ADULT;
    private static final String FIRST_REASON = "for the first of these reasons that applies";

    private VisitEdges() {
    }

    static void check() {
        checkSetPause();
        checkTicksUntilReady();
        checkTooSoon();
        checkOpenTicks();
        checkDaysOfPass();
        checkScents();
        checkFinesOpen();
        checkBedFull();
        checkOrder();
        checkOrderWhileClosed();
        checkAlarms();
        checkBedsFor();
        checkRefusedVisit();
    }

    /** The card would be refused for this reason, and is; the visit is undone again. */
    private static void shown(String when, GardenBureau bureau, int card, int bed, int reason) {
        String what = when + ", card " + card + " at bed " + bed + " at " + bureau.time();
        int sign = reason == ALLOWED ? GardenBureau.NODS
                : reason == GardenBureau.FINES_OPEN ? GardenBureau.POINTS : GardenBureau.SHAKES;
        Check.about(51, FIRST_REASON);
        Check.same("whyRefused, " + what, bureau.whyRefused(card, bed), reason);
        Check.about(52, "points at the box for the fines if it would be refused because of FINES_OPEN");
        Check.same("sign, " + what, bureau.sign(card, bed), sign);
        Check.about(53, "Returns the beds at which a card would not be refused now");
        Check.same("bedsFor, " + what, bureau.bedsFor(card) >> bed & 1, reason == ALLOWED ? 1 : 0);
        Check.about(16, FIRST_REASON);
        int alarms = bureau.alarms();
        int visits = bureau.visitsTo(bed);
        int pass = bureau.passOf(card);
        int visitsWith = bureau.visitsWith(pass);
        Check.same("visit, " + what, bureau.visit(card, bed), reason);
        Check.same("visitsTo, " + what, bureau.visitsTo(bed), reason == ALLOWED ? visits + 1 : visits);
        Check.same("visitsWith, " + what, bureau.visitsWith(pass), reason == ALLOWED ? visitsWith + 1 : visitsWith);
        Check.about(60, "A card that is refused because it is blocked raises an alarm, which is counted");
        Check.same("alarms, " + what, bureau.alarms(), reason == GardenBureau.CARD_BLOCKED ? alarms + 1 : alarms);
        bureau.undo();
        Check.same("alarms behind undo, " + what, bureau.alarms(), alarms);
    }

    private static void checkSetPause() {
        Check.about(9, "`ticks`: 0 to 8");
        GardenBureau bureau = new GardenBureau();
        Check.same("setPause(0)", bureau.setPause(0), 1);
        Check.same("setPause(8)", bureau.setPause(8), 0);
        Check.same("setPause(8)", bureau.setPause(8), 8);
        Check.same("setPause(1)", bureau.setPause(1), 8);
        Check.same("undoCount()", bureau.undoCount(), 4);
        Check.about(9, "IllegalArgumentException` if `ticks` is out of range");
        for (int ticks : new int[] {-1, -2, 9, 10, Recipes.MIN, Recipes.MAX}) {
            Refused.argument("setPause(" + ticks + ")", Recipes::nothing, other -> other.setPause(ticks));
        }
    }

    private static void checkTicksUntilReady() {
        Check.about(47, "Returns the number of ticks, 0 if it is so now");
        for (int pause = 0; pause <= 8; pause++) {
            GardenBureau bureau = Probe.make(Recipes::visited);
            bureau.setPause(pause);
            for (int ago = 0; ago <= 10; ago++) {
                Check.same("pause " + pause + ", " + ago + " ticks ago", bureau.ticksUntilReady(0), Math.max(0, pause - ago));
                bureau.pass(1);
            }
            Recipes.goTo(bureau, 9599);
            Check.same("pause " + pause + ", long ago", bureau.ticksUntilReady(0), 0);
        }
        GardenBureau unused = Feed.bureau("garden 9;sell 1 0 1 adult;");
        unused.setPause(8);
        Check.same("no visit, time 0", unused.ticksUntilReady(0), 0);
        unused.pass(8);
        Check.same("no visit, time 8", unused.ticksUntilReady(0), 0);
        GardenBureau changed = Probe.make(Recipes::visited);
        changed.pass(2);
        Check.same("ready", changed.ticksUntilReady(0), 0);
        changed.setPause(3);
        Check.same("not ready by a longer pause", changed.ticksUntilReady(0), 1);
    }

    private static void checkTooSoon() {
        for (int pause = 0; pause <= 8; pause++) {
            GardenBureau bureau = Probe.make(Recipes::visited);
            bureau.setPause(pause);
            for (int ago = 0; ago <= 9; ago++) {
                shown("pause " + pause, bureau, 0, 0, ago < pause ? GardenBureau.TOO_SOON : ALLOWED);
                bureau.pass(1);
            }
        }
        GardenBureau first = Feed.bureau("garden 9;bed 0 1 0 0;sell 1 0 1 adult;pass 32;");
        first.setPause(8);
        shown("the first visit of all", first, 0, 0, ALLOWED);
        GardenBureau refused = Probe.make(Recipes::visited);
        refused.setPause(2);
        refused.pass(1);
        refused.visit(0, 0);
        refused.pass(1);
        shown("a refused visit is no visit", refused, 0, 0, ALLOWED);
    }

    private static void checkOpenTicks() {
        GardenBureau bureau = Feed.bureau("garden 9;bed 0 1 0 0;sell 1 0 14 adult;");
        for (int tick : new int[] {0, 31, 32, 49, 50, 53, 54, 67, 68, 95, 96, 127, 128}) {
            Recipes.goTo(bureau, tick);
            boolean open = tick % 96 >= 32 && tick % 96 <= 49 || tick % 96 >= 54 && tick % 96 <= 67;
            shown("the garden's ticks", bureau, 0, 0, open ? ALLOWED : GardenBureau.GARDEN_CLOSED);
        }
    }

    private static void checkDaysOfPass() {
        GardenBureau bureau = Feed.bureau("garden 9;bed 0 1 0 0;sell 1 1 1 adult;sell 1 1 2 adult;sell 1 99 1 adult;");
        boolean[][] valid = {{false, false}, {true, true}, {false, true}, {false, false}};
        for (int day = 0; day < valid.length; day++) {
            Recipes.goTo(bureau, day * 96 + 67);
            for (int card = 0; card < 2; card++) {
                shown("day " + day, bureau, card, 0, valid[day][card] ? ALLOWED : GardenBureau.NOT_TODAY);
            }
        }
        Recipes.goTo(bureau, 98 * 96 + 67);
        shown("day 98", bureau, 2, 0, GardenBureau.NOT_TODAY);
        Recipes.goTo(bureau, 99 * 96 + 67);
        shown("day 99", bureau, 2, 0, ALLOWED);
        GardenBureau extended = Feed.bureau("garden 9;bed 0 1 0 0;sell 1 0 1 adult;pass 95;");
        extended.extend(0, 1);
        Recipes.goTo(extended, 96 + 32);
        shown("an extended pass", extended, 0, 0, ALLOWED);
        Recipes.goTo(extended, 192 + 32);
        shown("an extended pass", extended, 0, 0, GardenBureau.NOT_TODAY);
    }

    private static void checkScents() {
        GardenBureau bureau = Feed.bureau("garden 1 2 3 4 5;" + "bed 0 1 0 0;bed 1 1 0 0;bed 2 1 0 0;bed 3 1 0 0;bed 4 1 0 0;"
                + "sell 1 0 1 adult;sell 16 0 1 adult;sell 14 0 1 adult;sell 31 0 1 adult;pass 32;");
        int[] scents = {1, 16, 14, 31};
        for (int card = 0; card < scents.length; card++) {
            for (int bed = 0; bed < 5; bed++) {
                shown("scents " + scents[card], bureau, card, bed,
                        (scents[card] >> bed & 1) == 1 ? ALLOWED : GardenBureau.WRONG_SCENT);
            }
            Check.about(53, "Returns the set of these beds as the sum of 2 to the power of their numbers");
            Check.same("bedsFor", bureau.bedsFor(card), scents[card]);
        }
    }

    // The bed is out of season: at rate 3 the nine blooms cost 27, and at rate 1 each one costs 1 more.
    private static void checkFinesOpen() {
        GardenBureau bureau = Feed.bureau("garden 9;bed 0 20 9 9;sell 1 0 1 adult;pass 32;visit 0 0;");
        bureau.setPause(0);
        bureau.setRate(3);
        bureau.pluck(0, 9);
        bureau.setRate(1);
        for (int owed = 27; owed <= 33; owed++) {
            Check.about(46, "more than 30 is owed for the pass");
            Check.same("owed(0)", bureau.owed(0), owed);
            shown("owing " + owed, bureau, 0, 0, owed > 30 ? GardenBureau.FINES_OPEN : ALLOWED);
            bureau.pluck(0, 1);
        }
        bureau.payFines(0, 3);
        shown("owing 31", bureau, 0, 0, GardenBureau.FINES_OPEN);
        bureau.payFines(0, 1);
        shown("owing 30", bureau, 0, 0, ALLOWED);
    }

    private static void checkBedFull() {
        for (int places : new int[] {1, 2, 20}) {
            GardenBureau bureau = Feed.bureau("garden 9;bed 0 " + places + " 0 9;bed 0 1 0 9;sell 1 0 1 adult;sell 1 0 1 adult;"
                    + "pass 32;");
            bureau.setPause(0);
            for (int visits = 0; visits <= places; visits++) {
                shown(visits + " visits to " + places + " places", bureau, 1, 0,
                        visits < places ? ALLOWED : GardenBureau.BED_FULL);
                bureau.visit(0, 0);
            }
            shown("the other bed", bureau, 1, 1, ALLOWED);
            bureau.pass(1);
            shown("the next tick", bureau, 1, 0, ALLOWED);
        }
    }

    /** Card 0 has visited bed 0, owes more than 30 and has but scent 0; bed 0 and bed 1, of scent 1, are full. */
    private static GardenBureau trouble() {
        GardenBureau bureau = Feed.bureau("garden 9 9;bed 0 1 0 9;bed 1 1 0 9;sell 1 0 1 adult;sell 2 0 1 adult;"
                + "sell 1 1 1 adult;pass 32;visit 0 0;visit 1 1;pluck 0 8;");
        bureau.setPause(8);
        return bureau;
    }

    // Of the reasons that apply together, each step takes the first one away.
    private static void checkOrder() {
        GardenBureau bureau = trouble();
        bureau.setPeacocks(32, 32);
        shown("all but NOT_TODAY without a block", bureau, 0, 1, GardenBureau.GARDEN_CLOSED);
        bureau.setPeacocks(0, 0);
        shown("from WRONG_SCENT on", bureau, 0, 1, GardenBureau.WRONG_SCENT);
        shown("from FINES_OPEN on", bureau, 0, 0, GardenBureau.FINES_OPEN);
        bureau.payFines(0, 1);
        shown("a fine of 31", bureau, 0, 0, GardenBureau.FINES_OPEN);
        bureau.payFines(0, 1);
        shown("from TOO_SOON on", bureau, 0, 0, GardenBureau.TOO_SOON);
        bureau.setPause(0);
        shown("BED_FULL alone", bureau, 0, 0, GardenBureau.BED_FULL);
        shown("NOT_TODAY and BED_FULL", bureau, 2, 0, GardenBureau.NOT_TODAY);
        shown("NOT_TODAY, WRONG_SCENT and BED_FULL", bureau, 2, 1, GardenBureau.NOT_TODAY);
        bureau.reportLost(2);
        shown("CARD_BLOCKED, NOT_TODAY, WRONG_SCENT and BED_FULL", bureau, 2, 1, GardenBureau.CARD_BLOCKED);
        GardenBureau blocked = trouble();
        blocked.reportLost(0);
        shown("CARD_BLOCKED and from FINES_OPEN on", blocked, 0, 0, GardenBureau.CARD_BLOCKED);
        shown("CARD_BLOCKED and from WRONG_SCENT on", blocked, 0, 1, GardenBureau.CARD_BLOCKED);
        blocked.pass(1);
        shown("CARD_BLOCKED, FINES_OPEN and TOO_SOON", blocked, 0, 0, GardenBureau.CARD_BLOCKED);
        GardenBureau later = trouble();
        later.pass(96);
        shown("NOT_TODAY and FINES_OPEN", later, 0, 0, GardenBureau.NOT_TODAY);
        shown("NOT_TODAY, WRONG_SCENT and FINES_OPEN", later, 0, 1, GardenBureau.NOT_TODAY);
    }

    private static void checkOrderWhileClosed() {
        GardenBureau bureau = trouble();
        bureau.setPeacocks(0, 95);
        shown("closed, FINES_OPEN", bureau, 0, 0, GardenBureau.GARDEN_CLOSED);
        shown("closed, NOT_TODAY", bureau, 2, 0, GardenBureau.GARDEN_CLOSED);
        bureau.reportLost(0);
        shown("closed, CARD_BLOCKED", bureau, 0, 0, GardenBureau.GARDEN_CLOSED);
        bureau.refundPass(2);
        shown("closed, a returned pass", bureau, 2, 1, GardenBureau.GARDEN_CLOSED);
    }

    private static void checkAlarms() {
        Check.about(60, "A card that is refused because it is blocked raises an alarm, which is counted");
        GardenBureau bureau = new GardenBureau();
        Check.same("alarms()", bureau.alarms(), 0);
        for (int alarm = 1; alarm <= 5; alarm++) {
            bureau.visit(0, alarm % 3);
            Check.same("alarms()", bureau.alarms(), alarm);
        }
        bureau.refundPass(2);
        bureau.visit(2, 0);
        Check.same("the card of a returned pass", bureau.alarms(), 6);
        bureau.whyRefused(0, 0);
        bureau.sign(0, 0);
        bureau.bedsFor(0);
        Check.same("questions raise none", bureau.alarms(), 6);
        Check.throwsIndex("visit(0, 3)", () -> bureau.visit(0, 3));
        Check.same("a bed that is not raises none", bureau.alarms(), 6);
        bureau.setPeacocks(42, 42);
        bureau.visit(0, 0);
        Check.same("a closed garden raises none", bureau.alarms(), 6);
    }

    private static void checkBedsFor() {
        Check.about(53, "Returns the set of these beds as the sum of 2 to the power of their numbers");
        String beds = "bed 0 1 0 0;".repeat(8);
        GardenBureau bureau = Feed.bureau("garden 9;" + beds + "sell 1 0 1 adult;sell 1 0 1 adult;pass 32;");
        Check.same("all of eight beds", bureau.bedsFor(0), 255);
        bureau.visit(1, 7);
        Check.same("all but the last bed", bureau.bedsFor(0), 127);
        bureau.undo();
        bureau.visit(1, 0);
        Check.same("all but the first bed", bureau.bedsFor(0), 254);
        Check.same("none, for it is too soon", bureau.bedsFor(1), 0);
        bureau.pass(18);
        Check.same("none, for the garden is closed", bureau.bedsFor(0), 0);
        GardenBureau none = Feed.bureau("garden 9;sell 1 0 1 adult;pass 32;");
        Check.same("no beds", none.bedsFor(0), 0);
        none.layBed(0, 1, 0, 0);
        Check.same("the first bed", none.bedsFor(0), 1);
    }

    private static void checkRefusedVisit() {
        Check.about(16, "Returns ALLOWED for a visit, or the reason of the refusal");
        GardenBureau bureau = new GardenBureau();
        Check.same("visit(1, 0)", bureau.visit(1, 0), GardenBureau.TOO_SOON);
        Check.same("a refused visit does not throw, and can be undone", bureau.undoCount(), 1);
        Check.same("undo()", bureau.undo(), 0);
        bureau.pass(1);
        Check.same("visit(1, 0)", bureau.visit(1, 0), ALLOWED);
        Check.same("undoCount()", bureau.undoCount(), 2);
        bureau.sell(3, 0, 1, ADULT);
        Check.same("the bed of the latest visit", bureau.pluck(1, 1), 4);
    }
}
