/** The edges of the promises 17, 18, 46, 58 and 59: plucked blooms, and fines that are owed and paid. */
final class FineEdges {
    private FineEdges() {
    }

    static void check() {
        checkPluck();
        checkWrongBlooms();
        checkBloomsOfBed();
        checkPresentTick();
        checkLatestVisit();
        checkBlockedCard();
        checkFine();
        checkPayFines();
        checkWrongAmounts();
        checkOwed();
    }

    private static void checkPluck() {
        Check.about(17, "`blooms`: 1 to 9");
        for (int blooms = 1; blooms <= 9; blooms++) {
            GardenBureau bureau = Probe.make(Recipes::visited);
            Check.about(17, "Returns the fine");
            Check.same("pluck(0, " + blooms + ")", bureau.pluck(0, blooms), 4 * blooms);
            Check.same("blooms(0)", bureau.blooms(0), 20 - blooms);
            Check.same("undoCount()", bureau.undoCount(), 2);
            Check.about(46, "it is owed for the pass until it is paid");
            Check.same("owed(0)", bureau.owed(0), 4 * blooms);
            Check.about(59, "Returns the number of blooms that were plucked");
            Check.same("plucked()", bureau.plucked(), blooms);
            Check.about(58, "Returns the sum of all fines that were paid");
            Check.same("finesPaid()", bureau.finesPaid(), 0);
        }
    }

    private static void checkWrongBlooms() {
        Check.about(17, "IllegalArgumentException` if `blooms` is out of range");
        for (int blooms : new int[] {0, -1, 10, 11, Recipes.MIN, Recipes.MAX}) {
            Refused.argument("pluck(0, " + blooms + ")", Recipes::visited, bureau -> bureau.pluck(0, blooms));
            Refused.argument("pluck(0, " + blooms + ") with a blocked card", Recipes::nothing, bureau -> bureau.pluck(0, blooms));
            Refused.argument("pluck(2, " + blooms + ") without a visit", Recipes::nothing, bureau -> bureau.pluck(2, blooms));
        }
    }

    /** Leaves this number of blooms, from 1 to 11, in the bed of the visit. */
    private static void left(GardenBureau bureau, int blooms) {
        Recipes.visited(bureau);
        bureau.pluck(0, 9);
        if (blooms < 11) {
            bureau.pluck(0, Math.min(9, 11 - blooms));
        }
        if (blooms < 2) {
            bureau.pluck(0, 2 - blooms);
        }
    }

    private static void checkBloomsOfBed() {
        Check.about(17, "or the bed has fewer blooms");
        for (int blooms = 1; blooms <= 9; blooms++) {
            int count = blooms;
            GardenBureau bureau = new GardenBureau();
            left(bureau, blooms);
            Check.same("blooms(0)", bureau.blooms(0), blooms);
            Check.same("all blooms that are left", bureau.pluck(0, blooms), 4 * blooms);
            Check.same("blooms(0)", bureau.blooms(0), 0);
            Refused.state("pluck(0, " + count + ") of one less", other -> left(other, count - 1),
                    other -> other.pluck(0, count));
        }
        Refused.state("pluck(0, 9) of one", other -> left(other, 1), other -> other.pluck(0, 9));
    }

    private static void checkPresentTick() {
        Check.about(17, "there was no visit with its pass in the present tick");
        Refused.state("pluck(2, 1) without a visit", Recipes::nothing, bureau -> bureau.pluck(2, 1));
        Refused.state("pluck(0, 1) at time 0 without a visit", bureau -> Feed.run(bureau, "garden 9;bed 0 1 0 0;sell 1 0 1 adult;"),
                bureau -> bureau.pluck(0, 1));
        Refused.state("pluck(0, 1) without a bed", bureau -> Feed.run(bureau, "garden 9;sell 1 0 1 adult;pass 32;"),
                bureau -> bureau.pluck(0, 1));
        Refused.state("pluck(0, 1) a tick later", bureau -> {
            Recipes.visited(bureau);
            bureau.pass(1);
        }, bureau -> bureau.pluck(0, 1));
        Refused.state("pluck(0, 1) in the same tick of the next day", bureau -> {
            Recipes.visited(bureau);
            bureau.pass(96);
        }, bureau -> bureau.pluck(0, 1));
        Refused.state("pluck(1, 1) behind a refused visit", bureau -> {
            bureau.pass(1);
            bureau.visit(1, 2);
        }, bureau -> bureau.pluck(1, 1));
        Refused.state("pluck(0, 1) behind a visit that is undone", bureau -> {
            Recipes.visited(bureau);
            bureau.pass(1);
            bureau.visit(0, 0);
            bureau.undo();
        }, bureau -> bureau.pluck(0, 1));
        GardenBureau bureau = Probe.make(Recipes::visited);
        bureau.pass(1);
        bureau.undo();
        Check.same("pluck(0, 1) in the tick that is back", bureau.pluck(0, 1), 4);
    }

    private static void checkLatestVisit() {
        Check.about(17, "Plucks blooms in the bed of the latest visit");
        GardenBureau bureau = Feed.bureau("garden 9;" + "bed 0 1 0 9;".repeat(8) + "sell 1 0 1 adult;sell 1 0 1 adult;pass 32;");
        bureau.setPause(0);
        for (int bed : new int[] {0, 7, 3}) {
            bureau.visit(0, bed);
            bureau.visit(1, (bed + 1) % 8);
            bureau.pluck(0, 2);
            Check.same("blooms(" + bed + ")", bureau.blooms(bed), 18);
            Check.same("blooms of the bed of the other pass", bureau.blooms((bed + 1) % 8), bed == 7 ? 18 : 20);
        }
        Check.same("a full bed is no latest visit", bureau.visit(0, 0), GardenBureau.BED_FULL);
        bureau.pluck(0, 1);
        Check.same("blooms(3)", bureau.blooms(3), 17);
        Check.same("blooms(0)", bureau.blooms(0), 18);
    }

    private static void checkBlockedCard() {
        Check.about(17, "IllegalStateException` if the card is blocked");
        Refused.state("pluck(0, 1) with a lost card", bureau -> {
            Recipes.visited(bureau);
            bureau.reportLost(0);
        }, bureau -> bureau.pluck(0, 1));
        Refused.state("pluck(0, 1) with the old one of two cards", bureau -> {
            Recipes.visited(bureau);
            bureau.reportLost(0);
            bureau.replaceCard(0);
        }, bureau -> bureau.pluck(0, 1));
        Refused.state("pluck(0, 1) with the card of a returned pass", bureau -> {
            Recipes.visited(bureau);
            bureau.refundPass(0);
        }, bureau -> bureau.pluck(0, 1));
        GardenBureau bureau = Probe.make(Recipes::visited);
        bureau.reportLost(0);
        bureau.replaceCard(0);
        Check.same("the new card, with the visit of the old one", bureau.pluck(1, 1), 4);
        Check.same("owed(0)", bureau.owed(0), 4);
    }

    private static void fine(int first, int last, int rate, int day, int due) {
        GardenBureau bureau = Feed.bureau("garden 9;bed 0 1 " + first + " " + last + ";sell 1 0 14 adult;");
        bureau.setRate(rate);
        Recipes.goTo(bureau, day * 96 + 32);
        bureau.visit(0, 0);
        Check.same("season " + first + " to " + last + ", rate " + rate + ", day " + day, bureau.pluck(0, 1), due);
        Check.same("the same for nine", bureau.pluck(0, 9), 9 * due);
        Check.same("owed(0)", bureau.owed(0), 10 * due);
    }

    private static void checkFine() {
        Check.about(17, "The fine for each bloom is the rate (1 to 20, 2 at first), or twice the rate if the bed is in season");
        fine(2, 3, 1, 1, 1);
        fine(2, 3, 1, 2, 2);
        fine(2, 3, 1, 3, 2);
        fine(2, 3, 1, 4, 1);
        fine(2, 3, 20, 1, 20);
        fine(2, 3, 20, 2, 40);
        fine(0, 0, 2, 0, 4);
        fine(0, 0, 2, 1, 2);
        fine(99, 99, 2, 13, 2);
    }

    private static void checkPayFines() {
        GardenBureau bureau = Probe.make(Recipes::visited);
        bureau.pluck(0, 9);
        int takings = bureau.takings();
        int[] amounts = {1, 20, 14, 1};
        int paid = 0;
        for (int amount : amounts) {
            paid += amount;
            Check.about(18, "Returns what is still owed for the pass");
            Check.same("payFines(0, " + amount + ")", bureau.payFines(0, amount), 36 - paid);
            Check.about(46, "Returns the fines that were not paid");
            Check.same("owed(0)", bureau.owed(0), 36 - paid);
            Check.about(58, "Returns the sum of all fines that were paid");
            Check.same("finesPaid()", bureau.finesPaid(), paid);
            Check.about(56, "Returns the sum of all that was paid");
            Check.same("takings()", bureau.takings(), takings + paid);
        }
        Check.about(18, "Returns what is still owed for the pass");
        GardenBureau all = Probe.make(Recipes::visited);
        all.pluck(0, 9);
        Check.same("all at once", all.payFines(0, 36), 0);
        GardenBureau returned = Probe.make(Recipes::visited);
        returned.setRate(20);
        returned.pluck(0, 9);
        returned.refundPass(0);
        Check.same("for a returned pass", returned.payFines(0, 1), 360 - 104 - 1);
        Check.same("the rest", returned.payFines(0, 255), 0);
        Check.same("for a pass without a card", new GardenBureau().payFines(0, 8), 0);
    }

    private static void checkWrongAmounts() {
        Check.about(18, "IllegalArgumentException` if `amount` is out of range");
        for (int amount : new int[] {0, -1, 10000, 10001, Recipes.MIN, Recipes.MAX}) {
            Refused.argument("payFines(0, " + amount + ")", Recipes::nothing, bureau -> bureau.payFines(0, amount));
            Refused.argument("payFines(2, " + amount + ")", Recipes::nothing, bureau -> bureau.payFines(2, amount));
        }
        Check.about(18, "IllegalStateException` if less is owed");
        for (int amount : new int[] {13, 14, 9998, 9999}) {
            Refused.state("payFines(1, " + amount + ") of 12", Recipes::nothing, bureau -> bureau.payFines(1, amount));
        }
        Refused.state("payFines(2, 1) of 0", Recipes::nothing, bureau -> bureau.payFines(2, 1));
        Refused.state("payFines(2, 9999) of 0", Recipes::nothing, bureau -> bureau.payFines(2, 9999));
        Refused.state("payFines(1, 1) when all is paid", bureau -> bureau.payFines(1, 12), bureau -> bureau.payFines(1, 1));
        Refused.state("payFines(1, 8) of 7", bureau -> bureau.payFines(1, 5), bureau -> bureau.payFines(1, 8));
        Check.same("12 of 12", new GardenBureau().payFines(1, 12), 0);
        Check.same("11 of 12", new GardenBureau().payFines(1, 11), 1);
    }

    // All of 50 blooms at the highest rate.
    private static void checkOwed() {
        Check.about(46, "it is owed for the pass until it is paid");
        GardenBureau bureau = Feed.bureau("garden 9;bed 0 1 0 99;pass 500;pass 460;");
        bureau.sell(1, 10, 1, GardenBureau.ADULT);
        bureau.setRate(20);
        bureau.pass(32);
        bureau.visit(0, 0);
        for (int plucked = 9; plucked <= 45; plucked += 9) {
            bureau.pluck(0, 9);
            Check.same("owed(0)", bureau.owed(0), 40 * plucked);
        }
        bureau.pluck(0, 5);
        Check.same("owed(0) for all of 50 blooms", bureau.owed(0), 2000);
        Check.same("blooms(0)", bureau.blooms(0), 0);
        Check.same("plucked()", bureau.plucked(), 50);
        Check.throwsState("payFines(0, 2001)", () -> bureau.payFines(0, 2001));
        Recipes.goTo(bureau, 9599);
        Check.same("owed(0) at the last time", bureau.owed(0), 2000);
        Check.same("payFines(0, 2000)", bureau.payFines(0, 2000), 0);
        Check.about(58, "Returns the sum of all fines that were paid");
        Check.same("finesPaid()", bureau.finesPaid(), 2000);
    }
}
