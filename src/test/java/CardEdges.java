/** The edges of the promises 13 to 15, 41, 42 and 48 to 50: cards that are lost and replaced, and passes that are returned. */
final class CardEdges {
    private static final int NONE = GardenBureau.NONE;

    private CardEdges() {
    }

    static void check() {
        checkLost();
        checkReplaced();
        checkMostCards();
        checkReturned();
        checkWhatIsPaidOut();
        checkCards();
    }

    private static void checkLost() {
        Check.about(13, "Returns the number of the card");
        GardenBureau bureau = new GardenBureau();
        Check.same("reportLost(2)", bureau.reportLost(2), 2);
        Check.same("reportLost(1)", bureau.reportLost(1), 1);
        Check.same("undoCount()", bureau.undoCount(), 2);
        Check.about(13, "The card is blocked");
        Check.same("isBlocked(2)", bureau.isBlocked(2), true);
        bureau.replaceCard(2);
        Check.same("reportLost(2)", bureau.reportLost(2), 3);
        Check.same("isBlocked(3)", bureau.isBlocked(3), true);
        Check.same("takings()", bureau.takings(), 380);
        Check.about(13, "IllegalStateException` if the pass has no card");
        Refused.state("reportLost(0) of a lost card", Recipes::nothing, other -> other.reportLost(0));
        Refused.state("reportLost(1) again", other -> other.reportLost(1), other -> other.reportLost(1));
        Refused.state("reportLost(2) of a returned pass", other -> other.refundPass(2), other -> other.reportLost(2));
        Check.about(13, "or the pass was returned");
        GardenBureau old = new GardenBureau();
        Recipes.goTo(old, 9599);
        Check.same("reportLost(1) long behind its last day", old.reportLost(1), 1);
    }

    private static void checkReplaced() {
        Check.about(14, "Returns the number of the new card");
        GardenBureau bureau = new GardenBureau();
        Check.same("replaceCard(0)", bureau.replaceCard(0), 3);
        Check.same("cardOf(0)", bureau.cardOf(0), 3);
        Check.about(14, "A fee of 5 is paid");
        Check.same("takings()", bureau.takings(), 380);
        Check.same("priceOf(0)", bureau.priceOf(0), 30);
        Check.same("owed(0)", bureau.owed(0), 8);
        Check.about(14, "IllegalStateException` if the pass has a card or is returned, or 50 cards were issued");
        Refused.state("replaceCard(1) of a pass with a card", Recipes::nothing, other -> other.replaceCard(1));
        Refused.state("replaceCard(0) again", other -> other.replaceCard(0), other -> other.replaceCard(0));
        Refused.state("replaceCard(2) of a returned pass", other -> other.refundPass(2), other -> other.replaceCard(2));
        Refused.state("replaceCard(0) of a returned pass without a card", other -> other.refundPass(0),
                other -> other.replaceCard(0));
        GardenBureau old = new GardenBureau();
        Recipes.goTo(old, 9599);
        Check.same("replaceCard(0) long behind its last day", old.replaceCard(0), 3);
    }

    private static void checkMostCards() {
        Check.about(48, "at most 50 cards can be issued; both are numbered from 0");
        GardenBureau bureau = Probe.make(Recipes::empty);
        Check.same("cardCount()", bureau.cardCount(), 0);
        bureau.sell(1, 0, 1, GardenBureau.ADULT);
        for (int card = 1; card < 50; card++) {
            Check.same("cardCount()", bureau.cardCount(), card);
            bureau.reportLost(0);
            Check.same("replaceCard(0)", bureau.replaceCard(0), card);
        }
        Check.same("cardCount()", bureau.cardCount(), 50);
        Check.about(49, "A card belongs to one pass for ever");
        Check.same("passOf(0)", bureau.passOf(0), 0);
        Check.same("passOf(49)", bureau.passOf(49), 0);
        Check.about(14, "or 50 cards were issued");
        Refused.state("a 51st card", other -> {
            Recipes.fiftyCards(other);
            other.reportLost(0);
        }, other -> other.replaceCard(0));
        Refused.state("a 51st card of another pass", other -> {
            Recipes.fiftyCards(other);
            other.reportLost(2);
        }, other -> other.replaceCard(2));
        Refused.state("a 51st card of a pass that has the 50th", Recipes::fiftyCards, other -> other.replaceCard(0));
        bureau.undo();
        Check.same("the 50th card again", bureau.replaceCard(0), 49);
        Check.about(48, "Returns the number of cards that were issued");
        bureau.refundPass(0);
        Check.same("cardCount() behind a returned pass", bureau.cardCount(), 50);
    }

    private static void checkReturned() {
        Check.about(15, "Its card, if it has one, is blocked");
        GardenBureau bureau = new GardenBureau();
        Check.same("refundPass(2)", bureau.refundPass(2), 52);
        Check.same("isBlocked(2)", bureau.isBlocked(2), true);
        Check.same("isBlocked(1)", bureau.isBlocked(1), false);
        Check.same("refundPass(0) without a card", bureau.refundPass(0), 0);
        Check.same("isBlocked(0)", bureau.isBlocked(0), true);
        Check.about(42, "Tells whether a pass is returned");
        Check.same("isReturned(0)", bureau.isReturned(0), true);
        Check.same("isReturned(1)", bureau.isReturned(1), false);
        Check.same("isReturned(2)", bureau.isReturned(2), true);
        Check.about(41, "Returns the number of the card, or NONE if it has none");
        Check.same("cardOf(0)", bureau.cardOf(0), NONE);
        Check.same("cardOf(1)", bureau.cardOf(1), 1);
        Check.same("cardOf(2)", bureau.cardOf(2), NONE);
        Check.same("cardOf(0) of a new object", new GardenBureau().cardOf(0), NONE);
        Check.about(15, "IllegalStateException` if the pass is returned already");
        Refused.state("refundPass(2) again", other -> other.refundPass(2), other -> other.refundPass(2));
        Refused.state("refundPass(0) again", other -> other.refundPass(0), other -> other.refundPass(0));
        Refused.state("refundPass(1) again, with fines left", other -> {
            other.setRate(20);
            other.pluck(1, 9);
            other.refundPass(1);
        }, other -> other.refundPass(1));
        Check.about(15, "Returns what is paid out");
        GardenBureau old = new GardenBureau();
        Recipes.goTo(old, 9599);
        Check.same("refundPass(2) long behind its last day", old.refundPass(2), 0);
        Check.same("isReturned(2)", old.isReturned(2), true);
    }

    /** The pass has a refund of 10; in season, and at rate 1, the fine of a bloom is 2. */
    private static void paidOut(int blooms, int paidOut, int owed, int finesPaid, int takings) {
        GardenBureau bureau = Feed.bureau("garden 20;bed 0 20 0 99;sell 1 0 2 adult;pass 32;visit 0 0;");
        bureau.setRate(1);
        if (blooms > 0) {
            bureau.pluck(0, blooms);
        }
        Check.same("refundPass(0) with a fine of " + 2 * blooms, bureau.refundPass(0), paidOut);
        Check.same("owed(0)", bureau.owed(0), owed);
        Check.same("finesPaid()", bureau.finesPaid(), finesPaid);
        Check.same("refunds()", bureau.refunds(), 10);
        Check.same("takings()", bureau.takings(), takings);
        Check.same("violations()", bureau.violations(), 0);
    }

    private static void checkWhatIsPaidOut() {
        Check.about(15, "as much of what is owed for it as possible is paid by the refund, and only the rest");
        paidOut(0, 10, 0, 0, 30);
        paidOut(1, 8, 0, 2, 32);
        paidOut(4, 2, 0, 8, 38);
        paidOut(5, 0, 0, 10, 40);
        paidOut(6, 0, 2, 10, 40);
        paidOut(9, 0, 8, 10, 40);
    }

    private static void checkCards() {
        Check.about(49, "A card belongs to one pass for ever");
        GardenBureau bureau = new GardenBureau();
        bureau.replaceCard(0);
        bureau.refundPass(1);
        bureau.sell(1, 0, 1, GardenBureau.ADULT);
        int[] passes = {0, 1, 2, 0, 3};
        boolean[] blocked = {true, true, false, false, false};
        for (int card = 0; card < passes.length; card++) {
            Check.about(49, "A card belongs to one pass for ever");
            Check.same("passOf(" + card + ")", bureau.passOf(card), passes[card]);
            Check.about(50, "it is blocked when it is reported as lost or its pass is returned");
            Check.same("isBlocked(" + card + ")", bureau.isBlocked(card), blocked[card]);
        }
    }
}
