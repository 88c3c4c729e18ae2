/** Promises 13 to 15, 41, 42 and 48 to 50: lost and replaced cards, returned passes, and the questions about cards. */
public final class CardTest {
    private CardTest() {
    }

    public static void main(String[] args) {
        checkLost();
        checkReplaced();
        checkReturned();
        checkRefundThatPaysFines();
        checkReturnWithoutCard();
        checkPassesThatAreNot();
        checkCardsThatAreNot();
        Check.end("CardTest");
    }

    private static void checkLost() {
        GardenBureau bureau = new GardenBureau();
        Check.same("cardCount", bureau.cardCount(), 3);
        Check.same("isBlocked", bureau.isBlocked(0), true);
        Check.throwsState("a pass without a card", () -> bureau.reportLost(0));
        Check.same("reportLost", bureau.reportLost(2), 2);
        Check.same("isBlocked", bureau.isBlocked(2), true);
        Check.same("isBlocked", bureau.isBlocked(1), false);
        Check.same("cardOf", bureau.cardOf(2), GardenBureau.NONE);
        Check.same("passOf", bureau.passOf(2), 2);
        Check.throwsState("a pass without a card", () -> bureau.reportLost(2));
        Check.same("undoCount", bureau.undoCount(), 1);
    }

    private static void checkReplaced() {
        GardenBureau bureau = new GardenBureau();
        Check.throwsState("a pass with a card", () -> bureau.replaceCard(1));
        Check.same("replaceCard", bureau.replaceCard(0), 3);
        Check.same("cardCount", bureau.cardCount(), 4);
        Check.same("cardOf", bureau.cardOf(0), 3);
        Check.same("passOf", bureau.passOf(3), 0);
        Check.same("isBlocked", bureau.isBlocked(3), false);
        Check.same("the old card", bureau.isBlocked(0), true);
        Check.same("the old card's pass", bureau.passOf(0), 0);
        Check.same("takings", bureau.takings(), 380);
        Check.same("the new card is lost", bureau.reportLost(0), 3);
        Check.same("replaceCard", bureau.replaceCard(0), 4);
        bureau.reportLost(1);
        bureau.refundPass(1);
        Check.throwsState("a returned pass", () -> bureau.replaceCard(1));
        Check.same("undoCount", bureau.undoCount(), 5);
    }

    private static void checkReturned() {
        GardenBureau bureau = new GardenBureau();
        Check.same("refundPass", bureau.refundPass(2), 52);
        Check.same("isReturned", bureau.isReturned(2), true);
        Check.same("isReturned", bureau.isReturned(1), false);
        Check.same("cardOf", bureau.cardOf(2), GardenBureau.NONE);
        Check.same("isBlocked", bureau.isBlocked(2), true);
        Check.same("refunds", bureau.refunds(), 52);
        Check.same("takings", bureau.takings(), 375 - 52);
        Check.same("finesPaid", bureau.finesPaid(), 0);
        Check.same("priceOf", bureau.priceOf(2), 105);
        Check.throwsState("a returned pass", () -> bureau.refundPass(2));
        Check.throwsState("a returned pass", () -> bureau.reportLost(2));
        Check.same("undoCount", bureau.undoCount(), 1);
    }

    private static void checkRefundThatPaysFines() {
        GardenBureau bureau = new GardenBureau();
        Check.same("refundPass", bureau.refundPass(1), 88);
        Check.same("refunds", bureau.refunds(), 100);
        Check.same("finesPaid", bureau.finesPaid(), 12);
        Check.same("takings", bureau.takings(), 375 + 12 - 100);
        Check.same("owed", bureau.owed(1), 0);
        bureau.undo();
        bureau.setRate(20);
        bureau.pluck(1, 3);
        Check.same("owed", bureau.owed(1), 132);
        Check.same("a refund that pays only fines", bureau.refundPass(1), 0);
        Check.same("refunds", bureau.refunds(), 100);
        Check.same("finesPaid", bureau.finesPaid(), 100);
        Check.same("takings", bureau.takings(), 375);
        Check.same("owed", bureau.owed(1), 32);
        Check.same("the rest is paid", bureau.payFines(1, 32), 0);
        Check.same("takings", bureau.takings(), 375 + 32);
    }

    private static void checkReturnWithoutCard() {
        GardenBureau bureau = new GardenBureau();
        Check.same("no refund", bureau.refundPass(0), 0);
        Check.same("isReturned", bureau.isReturned(0), true);
        Check.same("owed", bureau.owed(0), 8);
        Check.same("cardOf", bureau.cardOf(0), GardenBureau.NONE);
        Check.throwsState("a returned pass", () -> bureau.replaceCard(0));
        Check.same("violations", bureau.violations(), 0);
    }

    private static void checkPassesThatAreNot() {
        GardenBureau bureau = new GardenBureau();
        for (int pass : new int[] {-1, 3, 30, Integer.MIN_VALUE, Integer.MAX_VALUE}) {
            Check.throwsIndex("reportLost", () -> bureau.reportLost(pass));
            Check.throwsIndex("replaceCard", () -> bureau.replaceCard(pass));
            Check.throwsIndex("refundPass", () -> bureau.refundPass(pass));
            Check.throwsIndex("cardOf", () -> bureau.cardOf(pass));
            Check.throwsIndex("isReturned", () -> bureau.isReturned(pass));
        }
        Check.same("undoCount", bureau.undoCount(), 0);
    }

    private static void checkCardsThatAreNot() {
        GardenBureau bureau = new GardenBureau();
        for (int card : new int[] {-1, 3, 50, Integer.MIN_VALUE, Integer.MAX_VALUE}) {
            Check.throwsIndex("passOf", () -> bureau.passOf(card));
            Check.throwsIndex("isBlocked", () -> bureau.isBlocked(card));
        }
        Check.same("undoCount", bureau.undoCount(), 0);
    }
}
