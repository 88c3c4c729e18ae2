/** The edges of the promises 10 to 12 and 36 to 45: passes that are sold, extended and get further scents. */
final class PassEdges {
    private static final int ADULT = GardenBureau.ADULT;
    private static final int CHILD = GardenBureau.CHILD;
    private static final int MIN = Recipes.MIN;
    private static final int MAX = Recipes.MAX;

    private PassEdges() {
    }

    static void check() {
        checkSell();
        checkWrongSales();
        checkMostPasses();
        checkMostCards();
        checkExtend();
        checkWrongExtensions();
        checkPaidForExtensions();
        checkAddScent();
        checkWrongScents();
        checkPaidForScents();
        checkUsedDays();
        checkRefundOf();
        checkRoundedRefunds();
    }

    private static void checkSell() {
        int[][] sales = {{1, 0, 1, ADULT}, {7, 99, 14, CHILD}, {4, 0, 14, ADULT}, {6, 99, 1, CHILD}};
        int[] prices = {30, 436, 168, 21};
        GardenBureau bureau = new GardenBureau();
        int takings = 375;
        for (int index = 0; index < sales.length; index++) {
            int[] sale = sales[index];
            int pass = 3 + index;
            Check.about(10, "Sells a pass with a new card. Its price is paid");
            Check.same("sell", bureau.sell(sale[0], sale[1], sale[2], sale[3]), pass);
            takings += prices[index];
            Check.same("takings()", bureau.takings(), takings);
            Check.same("undoCount()", bureau.undoCount(), 1 + index);
            Check.about(36, "Returns the number of passes that were sold");
            Check.same("passCount()", bureau.passCount(), pass + 1);
            Check.about(37, "Returns the set of these scents");
            Check.same("scentsOf", bureau.scentsOf(pass), sale[0]);
            Check.about(38, "Returns the first day of a pass");
            Check.same("firstDay", bureau.firstDay(pass), sale[1]);
            Check.about(39, "Returns the last day of a pass");
            Check.same("lastDay", bureau.lastDay(pass), sale[1] + sale[2] - 1);
            Check.about(40, "Returns the price of a pass");
            Check.same("priceOf", bureau.priceOf(pass), prices[index]);
            Check.about(41, "Returns the number of the card, or NONE if it has none");
            Check.same("cardOf", bureau.cardOf(pass), pass);
            Check.about(42, "Tells whether a pass is returned");
            Check.same("isReturned", bureau.isReturned(pass), false);
            Check.about(44, "Returns the number of visits with a pass");
            Check.same("visitsWith", bureau.visitsWith(pass), 0);
        }
        Check.about(10, "Its price is paid");
        GardenBureau cheap = Feed.bureau("garden 1;");
        Check.same("a pass for nothing", cheap.sell(1, 0, 1, CHILD), 0);
        Check.same("takings()", cheap.takings(), 0);
        Check.same("priceOf(0)", cheap.priceOf(0), 0);
        Check.same("refundOf(0)", cheap.refundOf(0), 0);
    }

    private static void sellRefused(Probe.Acts before, int scents, int day, int days, int kind) {
        Refused.argument("sell(" + scents + ", " + day + ", " + days + ", " + kind + ")", before,
                bureau -> bureau.sell(scents, day, days, kind));
    }

    private static void checkWrongSales() {
        Check.about(10, "IllegalArgumentException` if a parameter is out of range or `scents` is not such a set");
        for (int scents : new int[] {0, -1, 8, 9, 16, 32, 1 << 30, MIN, MIN + 1, MAX}) {
            sellRefused(Recipes::nothing, scents, 0, 1, ADULT);
        }
        sellRefused(Recipes::empty, 2, 0, 1, ADULT);
        sellRefused(Recipes::fiveScents, 32, 0, 1, ADULT);
        Check.same("all of five scents", Probe.make(Recipes::fiveScents).sell(31, 0, 1, ADULT), 1);
        for (int day : new int[] {-1, 100, 101, MIN, MAX}) {
            sellRefused(Recipes::nothing, 1, day, 1, ADULT);
        }
        for (int days : new int[] {0, -1, 15, 16, MIN, MAX}) {
            sellRefused(Recipes::nothing, 1, 0, days, ADULT);
        }
        for (int kind : new int[] {-1, 2, MIN, MAX}) {
            sellRefused(Recipes::nothing, 1, 0, 1, kind);
        }
        Check.about(10, "`day`: its first day, from the present day to 99");
        sellRefused(bureau -> Recipes.goTo(bureau, 96), 1, 0, 14, ADULT);
        sellRefused(bureau -> Recipes.goTo(bureau, 9504), 1, 98, 14, ADULT);
        sellRefused(bureau -> Recipes.goTo(bureau, 9599), 1, 100, 1, ADULT);
        int[][] allowed = {{42, 0}, {95, 0}, {95, 99}, {96, 1}, {96, 99}, {9503, 98}, {9504, 99}, {9599, 99}};
        for (int[] row : allowed) {
            GardenBureau bureau = new GardenBureau();
            Recipes.goTo(bureau, row[0]);
            Check.same("sell for day " + row[1] + " at " + row[0], bureau.sell(1, row[1], 1, ADULT), 3);
        }
    }

    private static void checkMostPasses() {
        Check.about(10, "IllegalStateException` if 30 passes were sold or 50 cards were issued");
        GardenBureau bureau = Probe.make(Recipes::empty);
        for (int pass = 0; pass < 30; pass++) {
            Check.same("passCount()", bureau.passCount(), pass);
            Check.same("sell", bureau.sell(1, 0, 1, ADULT), pass);
        }
        Check.about(36, "At most 30 passes can be sold");
        Check.same("passCount()", bureau.passCount(), 30);
        Check.about(10, "IllegalStateException` if 30 passes were sold or 50 cards were issued");
        Refused.state("a 31st pass", Recipes::thirtyPasses, other -> other.sell(1, 0, 1, ADULT));
        Check.about(10, "If several exceptions apply, the one that is listed first is thrown");
        sellRefused(Recipes::thirtyPasses, 0, 0, 1, ADULT);
        sellRefused(Recipes::thirtyPasses, 1, 100, 1, ADULT);
        sellRefused(Recipes::thirtyPasses, 1, 0, 15, ADULT);
        sellRefused(Recipes::thirtyPasses, 1, 0, 1, 2);
        Check.about(10, "IllegalStateException` if 30 passes were sold or 50 cards were issued");
        bureau.refundPass(0);
        Check.throwsState("a 31st pass behind a returned one", () -> bureau.sell(1, 0, 1, ADULT));
        bureau.undo();
        Check.same("undo()", bureau.undo(), 6);
        Check.same("the 30th pass again", bureau.sell(1, 0, 1, ADULT), 29);
    }

    private static void checkMostCards() {
        Check.about(10, "IllegalStateException` if 30 passes were sold or 50 cards were issued");
        Refused.state("a pass with a 51st card", Recipes::fiftyCards, bureau -> bureau.sell(1, 0, 1, ADULT));
        sellRefused(Recipes::fiftyCards, 1, 0, 0, ADULT);
        GardenBureau bureau = Probe.make(Recipes::fiftyCards);
        bureau.undo();
        Check.same("a pass with the 50th card", bureau.sell(1, 0, 1, ADULT), 3);
        Check.same("cardOf(3)", bureau.cardOf(3), 49);
        Check.throwsState("a pass with a 51st card", () -> bureau.sell(1, 0, 1, ADULT));
    }

    private static void checkExtend() {
        Check.about(11, "`days`: 1 to 13");
        int[][] rows = {{1, 1}, {1, 12}, {1, 13}, {13, 1}, {2, 12}, {7, 7}};
        for (int[] row : rows) {
            GardenBureau bureau = new GardenBureau();
            bureau.sell(1, 2, row[0], ADULT);
            bureau.extend(3, row[1]);
            Check.same("lastDay(3)", bureau.lastDay(3), 1 + row[0] + row[1]);
            Check.same("firstDay(3)", bureau.firstDay(3), 2);
            Check.same("undoCount()", bureau.undoCount(), 2);
        }
        Check.about(11, "its last day is before the present day");
        for (int time : new int[] {42, 95, 96, 191, 192, 287}) {
            GardenBureau bureau = new GardenBureau();
            bureau.sell(1, 0, 3, ADULT);
            Recipes.goTo(bureau, time);
            bureau.extend(3, 1);
            Check.same("lastDay(3) at " + time, bureau.lastDay(3), 3);
        }
        GardenBureau late = new GardenBureau();
        late.sell(1, 99, 1, ADULT);
        late.extend(3, 13);
        Check.same("the last day that a pass can have", late.lastDay(3), 112);
        Check.same("writePass(3)", late.writePass(3), 14);
    }

    private static void checkWrongExtensions() {
        Check.about(11, "IllegalArgumentException` if `days` is out of range");
        for (int days : new int[] {0, -1, 14, 15, MIN, MAX}) {
            Refused.argument("extend(0, " + days + ")", Recipes::nothing, bureau -> bureau.extend(0, days));
            Refused.argument("extend(2, " + days + ") of a returned pass", bureau -> bureau.refundPass(2),
                    bureau -> bureau.extend(2, days));
        }
        Check.about(11, "or it would have more than 14 days");
        int[][] rows = {{14, 1}, {14, 13}, {13, 2}, {2, 13}, {8, 7}};
        for (int[] row : rows) {
            Refused.state("extend by " + row[1] + " of " + row[0] + " days", bureau -> bureau.sell(1, 0, row[0], ADULT),
                    bureau -> bureau.extend(3, row[1]));
        }
        Check.about(11, "IllegalStateException` if the pass is returned");
        Refused.state("extend(2, 1) of a returned pass", bureau -> bureau.refundPass(2), bureau -> bureau.extend(2, 1));
        Check.about(11, "its last day is before the present day");
        Refused.state("extend(0, 1) on the next day", bureau -> Recipes.goTo(bureau, 96), bureau -> bureau.extend(0, 1));
        Refused.state("extend(2, 1) on the next day", bureau -> Recipes.goTo(bureau, 384), bureau -> bureau.extend(2, 1));
        Refused.state("extend(0, 13) on day 99", bureau -> Recipes.goTo(bureau, 9599), bureau -> bureau.extend(0, 13));
        GardenBureau lost = new GardenBureau();
        Check.same("a pass without a card is extended", lost.extend(0, 1), 30);
    }

    private static void extended(int price, int days, int newPrice, int by, int paid, int due) {
        GardenBureau bureau = Feed.bureau("garden " + price + ";sell 1 0 " + days + " adult;");
        bureau.setPrice(0, newPrice);
        int takings = bureau.takings();
        Check.same("extend by " + by, bureau.extend(0, by), paid);
        Check.same("priceOf(0)", bureau.priceOf(0), due);
        Check.same("takings()", bureau.takings(), takings + paid);
        Check.same("refunds()", bureau.refunds(), 0);
    }

    private static void checkPaidForExtensions() {
        Check.about(11, "the difference is paid if it is greater than 0, and nothing is paid back");
        extended(10, 1, 10, 1, 10, 20);
        extended(10, 2, 10, 1, 7, 27);
        extended(10, 5, 10, 1, 3, 48);
        extended(2, 5, 2, 1, 0, 9);
        extended(10, 2, 7, 1, 0, 20);
        extended(10, 2, 8, 1, 1, 21);
        extended(99, 1, 1, 13, 0, 99);
        extended(1, 1, 99, 13, 1107, 1108);
        Check.about(11, "Its price is the greater one of both then");
        extended(10, 2, 5, 2, 0, 20);
        extended(10, 2, 6, 2, 1, 21);
    }

    private static void checkAddScent() {
        Check.about(12, "Adds a scent to a pass");
        GardenBureau bureau = Probe.make(Recipes::fiveScents);
        int scents = 1;
        int[] paid = {0, 2, 3, 4, 5};
        for (int scent = 4; scent >= 1; scent--) {
            Check.same("addScent(0, " + scent + ")", bureau.addScent(0, scent), paid[scent]);
            scents += 1 << scent;
            Check.same("scentsOf(0)", bureau.scentsOf(0), scents);
        }
        Check.same("undoCount()", bureau.undoCount(), 5);
        Check.about(12, "its last day is before the present day");
        for (int time : new int[] {42, 95}) {
            GardenBureau today = new GardenBureau();
            Recipes.goTo(today, time);
            Check.same("addScent(0, 1) at " + time, today.addScent(0, 1), 20);
        }
        GardenBureau tomorrow = new GardenBureau();
        tomorrow.sell(1, 99, 1, ADULT);
        Check.same("addScent of a later pass", tomorrow.addScent(3, 2), 15);
    }

    private static void checkWrongScents() {
        Check.about(12, "or it has the scent");
        Refused.state("addScent(0, 0)", Recipes::nothing, bureau -> bureau.addScent(0, 0));
        Refused.state("addScent(2, 2)", Recipes::nothing, bureau -> bureau.addScent(2, 2));
        Refused.state("addScent(0, 1) again", bureau -> bureau.addScent(0, 1), bureau -> bureau.addScent(0, 1));
        Refused.state("addScent(1, 1) of the second one", Recipes::nothing, bureau -> bureau.addScent(1, 1));
        Check.about(12, "IllegalStateException` if the pass is returned");
        Refused.state("addScent(1, 2) of a returned pass", bureau -> bureau.refundPass(1), bureau -> bureau.addScent(1, 2));
        Refused.index("addScent(1, 3) of a returned pass", bureau -> bureau.refundPass(1), bureau -> bureau.addScent(1, 3));
        Check.about(12, "its last day is before the present day");
        Refused.state("addScent(0, 1) on the next day", bureau -> Recipes.goTo(bureau, 96), bureau -> bureau.addScent(0, 1));
        Refused.state("addScent(1, 2) on the next day", bureau -> Recipes.goTo(bureau, 576), bureau -> bureau.addScent(1, 2));
        Refused.index("addScent(0, 3) on the next day", bureau -> Recipes.goTo(bureau, 96), bureau -> bureau.addScent(0, 3));
    }

    private static void upgraded(String prices, String kind, int newPrice, int paid, int due) {
        GardenBureau bureau = Feed.bureau("garden " + prices + ";sell 1 0 1 " + kind + ";");
        bureau.setPrice(1, newPrice);
        int takings = bureau.takings();
        Check.same("addScent(0, 1)", bureau.addScent(0, 1), paid);
        Check.same("priceOf(0)", bureau.priceOf(0), due);
        Check.same("takings()", bureau.takings(), takings + paid);
    }

    private static void checkPaidForScents() {
        Check.about(12, "the difference is paid if it is greater than 0, and nothing is paid back");
        upgraded("30 20", "adult", 1, 1, 31);
        upgraded("30 20", "child", 1, 0, 18);
        upgraded("30 20", "child", 2, 1, 19);
        upgraded("30 20", "adult", 99, 99, 129);
        GardenBureau bureau = Feed.bureau("garden 30 20;sell 1 0 1 adult;");
        bureau.setPrice(0, 10);
        Check.same("addScent(0, 1) for the same price", bureau.addScent(0, 1), 0);
        Check.same("priceOf(0)", bureau.priceOf(0), 30);
        bureau.undo();
        bureau.setPrice(0, 9);
        Check.same("addScent(0, 1) for a lower price", bureau.addScent(0, 1), 0);
        Check.about(12, "Its price is the greater one of both then");
        Check.same("priceOf(0)", bureau.priceOf(0), 30);
        Check.same("scentsOf(0)", bureau.scentsOf(0), 3);
    }

    private static void checkUsedDays() {
        GardenBureau bureau = Probe.make(Recipes::visited);
        for (int day = 0; day < 14; day++) {
            Check.about(43, "A day of a pass is used if there was a visit with the pass on it");
            Recipes.goTo(bureau, day * 96 + 33);
            Check.same("usedDays(0)", bureau.usedDays(0), Math.max(1, day));
            bureau.visit(0, 0);
            Check.same("usedDays(0)", bureau.usedDays(0), day + 1);
            Recipes.goTo(bureau, day * 96 + 67);
            bureau.visit(0, 0);
            Check.same("usedDays(0)", bureau.usedDays(0), day + 1);
            Check.about(44, "Returns the number of visits with a pass");
            Check.same("visitsWith(0)", bureau.visitsWith(0), 1 + 2 * (day + 1));
        }
        Recipes.goTo(bureau, 14 * 96 + 32);
        Check.same("a visit behind the last day", bureau.visit(0, 0), GardenBureau.NOT_TODAY);
        Check.same("visitsWith(0)", bureau.visitsWith(0), 29);
        Check.about(43, "A day of a pass is used if there was a visit with the pass on it");
        Check.same("usedDays(0)", bureau.usedDays(0), 14);
        Check.same("a pass that was not used", new GardenBureau().usedDays(2), 0);
        GardenBureau lost = new GardenBureau();
        Check.about(44, "Returns the number of visits with a pass");
        Check.same("visitsWith(0) behind a lost card", lost.visitsWith(0), 1);
    }

    private static void refund(GardenBureau bureau, int pass, int time, int due) {
        Recipes.goTo(bureau, time);
        Check.same("refundOf(" + pass + ") at " + time, bureau.refundOf(pass), due);
    }

    // Pass 0 costs 224 for 14 days: 8 for each day that is left.
    private static void checkRefundOf() {
        Check.about(45, "days that are not used and are not before the present day");
        GardenBureau bureau = Probe.make(Recipes::visited);
        refund(bureau, 0, 32, 104);
        refund(bureau, 0, 95, 104);
        refund(bureau, 0, 96, 104);
        refund(bureau, 0, 128, 104);
        bureau.visit(0, 0);
        refund(bureau, 0, 128, 96);
        refund(bureau, 0, 192, 96);
        refund(bureau, 0, 287, 96);
        refund(bureau, 0, 288, 88);
        refund(bureau, 0, 13 * 96, 8);
        refund(bureau, 0, 14 * 96 - 1, 8);
        refund(bureau, 0, 14 * 96, 0);
        refund(bureau, 0, 9599, 0);
        GardenBureau later = Feed.bureau("garden 20;sell 1 2 2 adult;");
        refund(later, 0, 0, 20);
        refund(later, 0, 191, 20);
        refund(later, 0, 192, 20);
        refund(later, 0, 287, 20);
        refund(later, 0, 288, 10);
        refund(later, 0, 384, 0);
        Check.about(45, "Returns the refund, 0 if it is returned");
        GardenBureau returned = Feed.bureau("garden 20;sell 1 2 2 adult;refund 0;");
        refund(returned, 0, 0, 0);
        Check.about(45, "Returns the refund that a pass would have now, whatever is owed");
        GardenBureau owing = Probe.make(Recipes::visited);
        owing.setRate(20);
        owing.pluck(0, 9);
        refund(owing, 0, 32, 104);
    }

    private static void checkRoundedRefunds() {
        Check.about(45, "divided by the number of its days, and then halved, both rounded down");
        refund(Feed.bureau("garden 13;sell 1 0 1 adult;"), 0, 0, 6);
        refund(Feed.bureau("garden 1;sell 1 0 1 adult;"), 0, 0, 0);
        refund(Feed.bureau("garden 2;sell 1 0 1 adult;"), 0, 0, 1);
        // 40 * 2 / 3 = 26 and 26 / 2 = 13; were the price divided first, it would be 13 * 2 / 2 = 13 as well.
        refund(Feed.bureau("garden 15;sell 1 0 3 adult;"), 0, 96, 13);
        // 67 * 2 / 3 = 44 and 44 / 2 = 22.
        refund(Feed.bureau("garden 25;sell 1 0 3 adult;"), 0, 96, 22);
        // 5 * 2 / 3 = 3 and 3 / 2 = 1; were the price divided first, it would be 1 * 2 / 2 = 1 as well.
        refund(Feed.bureau("garden 2;sell 1 0 3 adult;"), 0, 96, 1);
        // 9 * 4 / 5 = 7 and 7 / 2 = 3; were the price divided first, it would be 1 * 4 / 2 = 2.
        refund(Feed.bureau("garden 2;sell 1 0 5 adult;"), 0, 96, 3);
        refund(Feed.bureau("garden 99 99 99 99 99;sell 31 0 14 adult;"), 0, 0, 2772);
    }
}
