/** Promises 10 to 12 and 36 to 45: sell, extend, addScent and the questions about passes. */
public final class PassTest {
    private PassTest() {
    }

    public static void main(String[] args) {
        checkSell();
        checkWrongSales();
        checkMostPasses();
        checkMostCards();
        checkExtend();
        checkWrongExtensions();
        checkAddScent();
        checkWrongScents();
        checkOldPasses();
        checkUsedDays();
        checkRefundOf();
        checkPassesThatAreNot();
        Check.end("PassTest");
    }

    private static void checkSell() {
        GardenBureau bureau = new GardenBureau();
        Check.same("sell", bureau.sell(5, 2, 3, GardenBureau.CHILD), 3);
        Check.same("passCount", bureau.passCount(), 4);
        Check.same("scentsOf", bureau.scentsOf(3), 5);
        Check.same("firstDay", bureau.firstDay(3), 2);
        Check.same("lastDay", bureau.lastDay(3), 4);
        Check.same("priceOf", bureau.priceOf(3), 72);
        Check.same("cardOf", bureau.cardOf(3), 3);
        Check.same("isReturned", bureau.isReturned(3), false);
        Check.same("usedDays", bureau.usedDays(3), 0);
        Check.same("visitsWith", bureau.visitsWith(3), 0);
        Check.same("owed", bureau.owed(3), 0);
        Check.same("ticksUntilReady", bureau.ticksUntilReady(3), 0);
        Check.same("passOf", bureau.passOf(3), 3);
        Check.same("isBlocked", bureau.isBlocked(3), false);
        Check.same("takings", bureau.takings(), 375 + 72);
        Check.same("the last days", bureau.sell(7, 99, 14, GardenBureau.ADULT), 4);
        Check.same("lastDay", bureau.lastDay(4), 112);
        Check.same("undoCount", bureau.undoCount(), 2);
    }

    private static void checkWrongSales() {
        GardenBureau bureau = new GardenBureau();
        Check.throwsArgument("no scents", () -> bureau.sell(0, 0, 1, 0));
        Check.throwsArgument("scents 8", () -> bureau.sell(8, 0, 1, 0));
        Check.throwsArgument("scents -1", () -> bureau.sell(-1, 0, 1, 0));
        Check.throwsArgument("day -1", () -> bureau.sell(1, -1, 1, 0));
        Check.throwsArgument("day 100", () -> bureau.sell(1, 100, 1, 0));
        Check.throwsArgument("days 0", () -> bureau.sell(1, 0, 0, 0));
        Check.throwsArgument("days 15", () -> bureau.sell(1, 0, 15, 0));
        Check.throwsArgument("kind -1", () -> bureau.sell(1, 0, 1, -1));
        Check.throwsArgument("kind 2", () -> bureau.sell(1, 0, 1, 2));
        bureau.pass(54);
        Check.throwsArgument("the day before", () -> bureau.sell(1, 0, 14, 0));
        Check.same("the present day", bureau.sell(1, 1, 1, 0), 3);
        Check.same("undoCount", bureau.undoCount(), 2);
    }

    private static void checkMostPasses() {
        GardenBureau bureau = new GardenBureau();
        for (int pass = 3; pass < 30; pass++) {
            Check.same("sell", bureau.sell(1, 0, 1, 0), pass);
        }
        Check.throwsState("a 31st pass", () -> bureau.sell(1, 0, 1, 0));
        Check.throwsArgument("a 31st pass of 0 days", () -> bureau.sell(1, 0, 0, 0));
        Check.same("passCount", bureau.passCount(), 30);
        Check.same("cardCount", bureau.cardCount(), 30);
        Check.throwsIndex("pass 30", () -> bureau.owed(30));
    }

    private static void checkMostCards() {
        GardenBureau bureau = new GardenBureau();
        bureau.replaceCard(0);
        for (int card = 4; card < 50; card++) {
            bureau.reportLost(0);
            Check.same("replaceCard", bureau.replaceCard(0), card);
        }
        Check.throwsState("a pass with a 51st card", () -> bureau.sell(1, 0, 1, 0));
        bureau.reportLost(0);
        Check.throwsState("a 51st card", () -> bureau.replaceCard(0));
        Check.same("cardCount", bureau.cardCount(), 50);
        Check.throwsIndex("card 50", () -> bureau.passOf(50));
        Check.same("takings", bureau.takings(), 375 + 47 * 5);
    }

    private static void checkExtend() {
        GardenBureau bureau = new GardenBureau();
        Check.same("extend", bureau.extend(0, 1), 30);
        Check.same("lastDay", bureau.lastDay(0), 1);
        Check.same("priceOf", bureau.priceOf(0), 60);
        Check.same("firstDay", bureau.firstDay(0), 0);
        Check.same("extend a child's pass", bureau.extend(2, 3), 187 - 105);
        Check.same("lastDay", bureau.lastDay(2), 6);
        Check.same("takings", bureau.takings(), 375 + 30 + 82);
        bureau.setPrice(0, 1);
        bureau.setPrice(1, 1);
        Check.same("a price that is not greater", bureau.extend(1, 8), 0);
        Check.same("priceOf", bureau.priceOf(1), 240);
        Check.same("lastDay", bureau.lastDay(1), 13);
        Check.throwsState("a 15th day", () -> bureau.extend(1, 1));
        Check.same("by 12 days", bureau.extend(0, 12), 0);
        Check.same("lastDay", bureau.lastDay(0), 13);
        bureau.setPrice(0, 60);
        int pass = bureau.sell(1, 0, 1, 0);
        Check.same("by 13 days", bureau.extend(pass, 13), 672 - 60);
        Check.same("priceOf", bureau.priceOf(pass), 672);
        Check.same("used days stay", bureau.usedDays(0), 1);
        Check.same("undo", bureau.undo(), 7);
        Check.same("the last day of before", bureau.lastDay(pass), 0);
        Check.same("the price of before", bureau.priceOf(pass), 60);
    }

    private static void checkWrongExtensions() {
        GardenBureau bureau = new GardenBureau();
        Check.throwsIndex("pass 3", () -> bureau.extend(3, 1));
        Check.throwsIndex("pass -1, days 0", () -> bureau.extend(-1, 0));
        Check.throwsArgument("days 0", () -> bureau.extend(0, 0));
        Check.throwsArgument("days 14", () -> bureau.extend(0, 14));
        Check.throwsArgument("days MAX", () -> bureau.extend(0, Integer.MAX_VALUE));
        Check.throwsState("15 days", () -> bureau.extend(1, 9));
        bureau.refundPass(1);
        Check.throwsState("a returned pass", () -> bureau.extend(1, 1));
        Check.throwsArgument("a returned pass, days 0", () -> bureau.extend(1, 0));
        Check.same("undoCount", bureau.undoCount(), 1);
    }

    private static void checkAddScent() {
        GardenBureau bureau = new GardenBureau();
        Check.same("addScent", bureau.addScent(1, 2), 312 - 240);
        Check.same("scentsOf", bureau.scentsOf(1), 7);
        Check.same("priceOf", bureau.priceOf(1), 312);
        Check.same("takings", bureau.takings(), 375 + 72);
        bureau.setPrice(0, 1);
        Check.same("a price that is not greater", bureau.addScent(0, 1), 0);
        Check.same("priceOf", bureau.priceOf(0), 30);
        Check.same("scentsOf", bureau.scentsOf(0), 3);
        Check.same("a price that is greater by 6", bureau.addScent(0, 2), 6);
        int pass = bureau.sell(1, 0, 1, GardenBureau.CHILD);
        Check.same("a child's pass", bureau.addScent(pass, 2), 9);
        Check.same("undoCount", bureau.undoCount(), 6);
    }

    private static void checkWrongScents() {
        GardenBureau bureau = new GardenBureau();
        Check.throwsIndex("pass 3", () -> bureau.addScent(3, 0));
        Check.throwsIndex("pass -1", () -> bureau.addScent(-1, 0));
        Check.throwsIndex("scent 3", () -> bureau.addScent(0, 3));
        Check.throwsIndex("scent -1", () -> bureau.addScent(0, -1));
        Check.throwsState("scent 0", () -> bureau.addScent(0, 0));
        Check.throwsState("scent 1", () -> bureau.addScent(1, 1));
        bureau.refundPass(1);
        Check.throwsState("a returned pass", () -> bureau.addScent(1, 2));
        Check.throwsIndex("a returned pass, scent 3", () -> bureau.addScent(1, 3));
        Check.same("undoCount", bureau.undoCount(), 1);
    }

    private static void checkOldPasses() {
        GardenBureau bureau = new GardenBureau();
        int pass = bureau.sell(1, 0, 2, 0);
        Feed.passTo(bureau, 2 * 96 - 1);
        Check.same("extend on the last day", bureau.extend(pass, 1), 21);
        Check.same("addScent on another day", bureau.addScent(pass, 1), 54);
        Feed.passTo(bureau, 3 * 96 - 1);
        Check.same("addScent on the last day", bureau.addScent(pass, 2), 40);
        bureau.pass(1);
        Check.throwsState("extend on the day behind", () -> bureau.extend(pass, 1));
        bureau.sell(1, 3, 1, 0);
        bureau.pass(96);
        Check.throwsState("addScent on the day behind", () -> bureau.addScent(pass + 1, 1));
    }

    private static void checkUsedDays() {
        GardenBureau bureau = new GardenBureau();
        bureau.pass(1);
        bureau.visit(1, 1);
        Check.same("usedDays", bureau.usedDays(1), 1);
        Check.same("visitsWith", bureau.visitsWith(1), 3);
        Feed.passTo(bureau, 96 * 5 + 32);
        bureau.visit(1, 0);
        bureau.pass(1);
        bureau.visit(1, 0);
        Check.same("usedDays", bureau.usedDays(1), 2);
        Check.same("visitsWith", bureau.visitsWith(1), 5);
        Check.same("a refused visit", bureau.visit(1, 2), GardenBureau.WRONG_SCENT);
        Check.same("visitsWith", bureau.visitsWith(1), 5);
        Check.same("visitsWith another pass", bureau.visitsWith(0), 1);
    }

    private static void checkRefundOf() {
        GardenBureau bureau = new GardenBureau();
        int pass = bureau.sell(1, 1, 14, GardenBureau.ADULT);
        Check.same("none used", bureau.refundOf(pass), 168);
        Check.same("the used day", bureau.refundOf(0), 0);
        Check.same("5 of 6 days", bureau.refundOf(1), 100);
        Feed.passTo(bureau, 96 + 32);
        Check.same("4 of 6 days and today", bureau.refundOf(1), 100);
        Check.same("today unused", bureau.refundOf(pass), 168);
        bureau.visit(3, 0);
        Check.same("today used", bureau.refundOf(pass), 156);
        Feed.passTo(bureau, 96 * 14);
        Check.same("one day left", bureau.refundOf(pass), 12);
        Feed.passTo(bureau, 96 * 15);
        Check.same("no day left", bureau.refundOf(pass), 0);
        GardenBureau odd = Feed.bureau("garden 13;sell 1 0 3 child;bed 0 1 0 0;pass 32;visit 0 0;");
        Check.same("price", odd.priceOf(0), 21);
        Check.same("21 * 2 / 3 / 2", odd.refundOf(0), 7);
        GardenBureau twice = Feed.bureau("garden 25;sell 1 0 3 adult;pass 96;");
        Check.same("price", twice.priceOf(0), 67);
        Check.same("67 * 2 / 3 = 44, 44 / 2", twice.refundOf(0), 22);
        Check.same("owed does not count", new GardenBureau().refundOf(1), 100);
        GardenBureau returned = new GardenBureau();
        returned.refundPass(2);
        Check.same("returned", returned.refundOf(2), 0);
    }

    private static void checkPassesThatAreNot() {
        GardenBureau bureau = new GardenBureau();
        for (int pass : new int[] {-1, 3, 30, Integer.MIN_VALUE, Integer.MAX_VALUE}) {
            Check.throwsIndex("scentsOf", () -> bureau.scentsOf(pass));
            Check.throwsIndex("firstDay", () -> bureau.firstDay(pass));
            Check.throwsIndex("lastDay", () -> bureau.lastDay(pass));
            Check.throwsIndex("priceOf", () -> bureau.priceOf(pass));
            Check.throwsIndex("cardOf", () -> bureau.cardOf(pass));
            Check.throwsIndex("isReturned", () -> bureau.isReturned(pass));
            Check.throwsIndex("usedDays", () -> bureau.usedDays(pass));
            Check.throwsIndex("visitsWith", () -> bureau.visitsWith(pass));
            Check.throwsIndex("refundOf", () -> bureau.refundOf(pass));
        }
        Check.same("undoCount", bureau.undoCount(), 0);
    }
}
