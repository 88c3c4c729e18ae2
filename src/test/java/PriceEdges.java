/** The edges of the promises 5, 6, 54 and 55: prices, the rate, quotes and fines. */
final class PriceEdges {
    private static final int ADULT = GardenBureau.ADULT;
    private static final int CHILD = GardenBureau.CHILD;

    private PriceEdges() {
    }

    static void check() {
        checkSetPrice();
        checkSetRate();
        checkDiscounts();
        checkRounding();
        checkWrongQuotes();
        checkSetsOfScents();
        checkFineFor();
        checkSeasonOfFine();
    }

    private static void checkSetPrice() {
        Check.about(5, "`price`: 1 to 99");
        GardenBureau bureau = new GardenBureau();
        Check.same("setPrice(0, 1)", bureau.setPrice(0, 1), 30);
        Check.same("setPrice(0, 99)", bureau.setPrice(0, 99), 1);
        Check.same("setPrice(0, 99)", bureau.setPrice(0, 99), 99);
        Check.same("setPrice(2, 98)", bureau.setPrice(2, 98), 15);
        Check.same("quote of all", bureau.quote(7, 1, ADULT), 99 + 20 + 98);
        Check.same("undoCount()", bureau.undoCount(), 4);
        Check.about(5, "Passes keep their prices");
        Check.same("priceOf(0)", bureau.priceOf(0), 30);
        Check.same("priceOf(2)", bureau.priceOf(2), 105);
        Check.same("takings()", bureau.takings(), 375);
        Check.about(5, "IllegalArgumentException` if `price` is out of range");
        for (int price : new int[] {0, -1, 100, 101, Recipes.MIN, Recipes.MAX}) {
            Refused.argument("setPrice(0, " + price + ")", Recipes::nothing, other -> other.setPrice(0, price));
            Refused.argument("setPrice(2, " + price + ")", Recipes::nothing, other -> other.setPrice(2, price));
        }
    }

    private static void checkSetRate() {
        Check.about(6, "`rate`: 1 to 20");
        GardenBureau bureau = new GardenBureau();
        Check.same("setRate(1)", bureau.setRate(1), 2);
        Check.same("fineFor(1, 1)", bureau.fineFor(1, 1), 1);
        Check.same("setRate(20)", bureau.setRate(20), 1);
        Check.same("fineFor(1, 1)", bureau.fineFor(1, 1), 20);
        Check.same("setRate(20)", bureau.setRate(20), 20);
        Check.same("undoCount()", bureau.undoCount(), 3);
        Check.about(6, "What is owed does not change");
        Check.same("owed(0)", bureau.owed(0), 8);
        Check.same("owed(1)", bureau.owed(1), 12);
        Check.same("owed(2)", bureau.owed(2), 0);
        Check.about(6, "IllegalArgumentException` if `rate` is out of range");
        for (int rate : new int[] {0, -1, 21, 22, Recipes.MIN, Recipes.MAX}) {
            Refused.argument("setRate(" + rate + ")", Recipes::nothing, other -> other.setRate(rate));
        }
    }

    // The prices of one scent at 25 for a day: 25, 50, then 90 percent, then 80 percent.
    private static void checkDiscounts() {
        Check.about(54, "90 percent from 3 days on, 80 percent from 6 days on, otherwise 100 percent");
        GardenBureau bureau = Feed.bureau("garden 25 50;");
        int[] adult = {25, 50, 67, 90, 112, 120, 140, 160, 180, 200, 220, 240, 260, 280};
        int[] child = {15, 30, 40, 54, 67, 72, 84, 96, 108, 120, 132, 144, 156, 168};
        for (int days = 1; days <= 14; days++) {
            Check.same("quote of " + days + " days for an adult", bureau.quote(1, days, ADULT), adult[days - 1]);
            Check.same("quote of " + days + " days for a child", bureau.quote(1, days, CHILD), child[days - 1]);
        }
        Check.same("quote of the other scent", bureau.quote(2, 2, ADULT), 100);
        Check.same("quote of both scents", bureau.quote(3, 2, ADULT), 150);
    }

    // Each of these would be less, were it rounded before the end.
    private static void checkRounding() {
        Check.about(54, "the product is divided by 10000 and rounded down at the end");
        Check.same("7 * 3 * 60 * 90", Feed.bureau("garden 7;").quote(1, 3, CHILD), 11);
        Check.same("8 * 6 * 60 * 80", Feed.bureau("garden 8;").quote(1, 6, CHILD), 23);
        Check.same("(3 + 2) * 1 * 60 * 100", Feed.bureau("garden 3 2;").quote(3, 1, CHILD), 3);
        Check.same("1 * 1 * 60 * 100", Feed.bureau("garden 1;").quote(1, 1, CHILD), 0);
        Check.same("1 * 2 * 60 * 100", Feed.bureau("garden 1;").quote(1, 2, CHILD), 1);
        Check.same("1 * 3 * 100 * 90", Feed.bureau("garden 1;").quote(1, 3, ADULT), 2);
        Check.same("1 * 14 * 100 * 80", Feed.bureau("garden 1;").quote(1, 14, ADULT), 11);
        Check.same("494 * 14 * 100 * 80", Feed.bureau("garden 98 99 99 99 99;").quote(31, 14, ADULT), 5532);
        GardenBureau dear = Feed.bureau("garden 99 99 99 99 99;");
        Check.same("the dearest for an adult", dear.quote(31, 14, ADULT), 5544);
        Check.same("the dearest for a child", dear.quote(31, 14, CHILD), 3326);
        Check.same("a question is no change", dear.undoCount(), 1);
    }

    private static void quoteRefused(Probe.Acts before, int scents, int days, int kind) {
        Refused.argument("quote(" + scents + ", " + days + ", " + kind + ")", before,
                bureau -> bureau.quote(scents, days, kind));
    }

    private static void checkWrongQuotes() {
        Check.about(54, "IllegalArgumentException` if a parameter is out of range or `scents` is not such a set");
        for (int days : new int[] {0, -1, 15, 16, Recipes.MIN, Recipes.MAX}) {
            quoteRefused(Recipes::nothing, 1, days, ADULT);
        }
        for (int kind : new int[] {-1, 2, Recipes.MIN, Recipes.MAX}) {
            quoteRefused(Recipes::nothing, 1, 1, kind);
        }
        for (int scents : new int[] {0, -1, 8, 9, 15, 16, 32, 1 << 30, Recipes.MIN, Recipes.MIN + 1, Recipes.MAX}) {
            quoteRefused(Recipes::nothing, scents, 1, ADULT);
        }
        quoteRefused(Recipes::empty, 2, 1, ADULT);
        quoteRefused(Recipes::empty, 3, 1, ADULT);
        quoteRefused(Recipes::fiveScents, 32, 1, ADULT);
        quoteRefused(Recipes::fiveScents, 33, 1, ADULT);
        quoteRefused(Recipes::fiveScents, 0, 1, ADULT);
    }

    private static void checkSetsOfScents() {
        Check.about(54, "a set of scents, not empty, as the sum of 2 to the power of their numbers");
        GardenBureau bureau = Feed.bureau("garden 1 2 4 8 16;");
        for (int scents = 1; scents <= 31; scents++) {
            Check.same("quote(" + scents + ", 1, ADULT)", bureau.quote(scents, 1, ADULT), scents);
        }
        Check.same("the only scent", Feed.bureau("garden 9;").quote(1, 1, ADULT), 9);
    }

    private static void checkFineFor() {
        Check.about(55, "`blooms`: 1 to 9");
        GardenBureau bureau = new GardenBureau();
        Check.same("fineFor(1, 1)", bureau.fineFor(1, 1), 2);
        Check.same("fineFor(1, 9)", bureau.fineFor(1, 9), 18);
        Check.same("fineFor(0, 1)", bureau.fineFor(0, 1), 4);
        Check.same("fineFor(0, 9)", bureau.fineFor(0, 9), 36);
        bureau.setRate(20);
        Check.same("fineFor(1, 1) at rate 20", bureau.fineFor(1, 1), 20);
        Check.same("fineFor(0, 9) at rate 20", bureau.fineFor(0, 9), 360);
        bureau.setRate(1);
        Check.same("fineFor(1, 1) at rate 1", bureau.fineFor(1, 1), 1);
        Check.same("fineFor(0, 1) at rate 1", bureau.fineFor(0, 1), 2);
        Check.same("a question is no change", bureau.undoCount(), 2);
        Check.same("of a bed with two blooms", Probe.make(other -> {
            Recipes.visited(other);
            other.pluck(0, 9);
            other.pluck(0, 9);
        }).fineFor(0, 9), 36);
        Check.about(55, "IllegalArgumentException` if `blooms` is out of range");
        for (int blooms : new int[] {0, -1, 10, 11, Recipes.MIN, Recipes.MAX}) {
            Refused.argument("fineFor(0, " + blooms + ")", Recipes::nothing, other -> other.fineFor(0, blooms));
        }
    }

    private static void checkSeasonOfFine() {
        Check.about(55, "twice the rate if the bed is in season on the present day");
        GardenBureau bureau = Feed.bureau("garden 9;bed 0 1 1 2;");
        int[][] due = {{0, 2}, {95, 2}, {96, 4}, {287, 4}, {288, 2}};
        for (int[] row : due) {
            Recipes.goTo(bureau, row[0]);
            Check.same("fineFor(0, 1) at " + row[0], bureau.fineFor(0, 1), row[1]);
        }
    }
}
