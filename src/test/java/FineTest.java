/** Promises 17, 18, 46, 58 and 59: pluck, payFines, owed, finesPaid and plucked. */
public final class FineTest {
    private FineTest() {
    }

    public static void main(String[] args) {
        checkPluck();
        checkWrongPlucking();
        checkTickAndBed();
        checkBlooms();
        checkBlockedCards();
        checkPayFines();
        checkNumbersThatAreNot();
        Check.end("FineTest");
    }

    private static void checkPluck() {
        GardenBureau bureau = new GardenBureau();
        Check.same("in season", bureau.pluck(1, 1), 4);
        Check.same("owed", bureau.owed(1), 16);
        Check.same("blooms", bureau.blooms(0), 14);
        Check.same("plucked", bureau.plucked(), 6);
        Check.same("blooms of the other bed", bureau.blooms(1), 20);
        bureau.setRate(3);
        Check.same("in season, rate 3", bureau.pluck(1, 2), 12);
        bureau.pass(1);
        Check.same("owed", bureau.owed(1), 28);
        bureau.visit(1, 1);
        Check.same("out of season", bureau.pluck(1, 9), 27);
        Check.same("owed", bureau.owed(1), 55);
        Check.same("plucked", bureau.plucked(), 17);
        Check.same("takings", bureau.takings(), 375);
        Check.same("violations", bureau.violations(), 0);
        Check.same("undoCount", bureau.undoCount(), 6);
    }

    private static void checkWrongPlucking() {
        GardenBureau bureau = new GardenBureau();
        Check.throwsIndex("card 3", () -> bureau.pluck(3, 1));
        Check.throwsIndex("card -1, blooms 0", () -> bureau.pluck(-1, 0));
        Check.throwsArgument("blooms 0", () -> bureau.pluck(1, 0));
        Check.throwsArgument("blooms 10", () -> bureau.pluck(1, 10));
        Check.throwsArgument("a blocked card, blooms 10", () -> bureau.pluck(0, 10));
        Check.throwsState("no visit", () -> bureau.pluck(2, 1));
        Check.same("undoCount", bureau.undoCount(), 0);
        Check.same("owed", bureau.owed(1), 12);
    }

    private static void checkTickAndBed() {
        GardenBureau bureau = new GardenBureau();
        bureau.setPause(0);
        bureau.visit(1, 1);
        Check.same("the latest visit counts", bureau.pluck(1, 1), 2);
        Check.same("blooms", bureau.blooms(1), 19);
        bureau.visit(1, 0);
        Check.same("the latest visit counts", bureau.pluck(1, 1), 4);
        Check.same("blooms", bureau.blooms(0), 14);
        Check.same("a refused visit", bureau.visit(1, 2), GardenBureau.WRONG_SCENT);
        Check.same("a refused visit does not count", bureau.pluck(1, 1), 4);
        bureau.pass(1);
        Check.throwsState("the tick is over", () -> bureau.pluck(1, 1));
        GardenBureau fresh = Feed.bureau("garden 9;bed 0 1 0 0;sell 1 0 1 adult;");
        Check.throwsState("no visit at time 0", () -> fresh.pluck(0, 1));
    }

    private static void checkBlooms() {
        GardenBureau bureau = new GardenBureau();
        bureau.pluck(1, 9);
        Check.same("blooms", bureau.blooms(0), 6);
        Check.throwsState("7 of 6 blooms", () -> bureau.pluck(1, 7));
        Check.same("6 of 6 blooms", bureau.pluck(1, 6), 24);
        Check.throwsState("1 of 0 blooms", () -> bureau.pluck(1, 1));
        Check.same("blooms", bureau.blooms(0), 0);
        Check.same("plucked", bureau.plucked(), 20);
        Check.same("undoCount", bureau.undoCount(), 2);
    }

    private static void checkBlockedCards() {
        GardenBureau bureau = new GardenBureau();
        bureau.reportLost(1);
        Check.throwsState("a lost card", () -> bureau.pluck(1, 1));
        bureau.replaceCard(1);
        Check.throwsState("the old card", () -> bureau.pluck(1, 1));
        Check.same("the new card of the same tick", bureau.pluck(3, 1), 4);
        bureau.refundPass(1);
        Check.throwsState("a returned pass", () -> bureau.pluck(3, 1));
    }

    private static void checkPayFines() {
        GardenBureau bureau = new GardenBureau();
        Check.throwsIndex("pass 3", () -> bureau.payFines(3, 1));
        Check.throwsArgument("amount 0", () -> bureau.payFines(1, 0));
        Check.throwsArgument("amount -1", () -> bureau.payFines(1, -1));
        Check.throwsArgument("amount 10000", () -> bureau.payFines(1, 10000));
        Check.throwsState("amount 9999", () -> bureau.payFines(1, 9999));
        Check.throwsState("13 of 12", () -> bureau.payFines(1, 13));
        Check.throwsState("1 of 0", () -> bureau.payFines(2, 1));
        Check.same("5 of 12", bureau.payFines(1, 5), 7);
        Check.same("owed", bureau.owed(1), 7);
        Check.same("owed", bureau.owed(0), 8);
        Check.same("finesPaid", bureau.finesPaid(), 5);
        Check.same("7 of 7", bureau.payFines(1, 7), 0);
        Check.same("a pass without a card", bureau.payFines(0, 8), 0);
        Check.same("finesPaid", bureau.finesPaid(), 20);
        Check.same("takings", bureau.takings(), 395);
        Check.same("refunds", bureau.refunds(), 0);
        Check.same("undoCount", bureau.undoCount(), 3);
    }

    private static void checkNumbersThatAreNot() {
        GardenBureau bureau = new GardenBureau();
        for (int number : new int[] {-1, 3, 50, Integer.MIN_VALUE, Integer.MAX_VALUE}) {
            Check.throwsIndex("pluck", () -> bureau.pluck(number, 0));
            Check.throwsIndex("payFines", () -> bureau.payFines(number, 0));
            Check.throwsIndex("owed", () -> bureau.owed(number));
        }
        Check.same("undoCount", bureau.undoCount(), 0);
    }
}
