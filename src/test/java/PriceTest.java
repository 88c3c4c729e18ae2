/** Promises 5, 6, 54 and 55: setPrice, setRate, quote and fineFor. */
public final class PriceTest {
    private PriceTest() {
    }

    public static void main(String[] args) {
        checkSetPrice();
        checkSetRate();
        checkQuote();
        checkWrongQuotes();
        checkFineFor();
        Check.end("PriceTest");
    }

    private static void checkSetPrice() {
        GardenBureau bureau = new GardenBureau();
        Check.throwsIndex("scent 3", () -> bureau.setPrice(3, 1));
        Check.throwsIndex("scent -1", () -> bureau.setPrice(-1, 1));
        Check.throwsIndex("scent 5, price 0", () -> bureau.setPrice(5, 0));
        Check.throwsArgument("price 0", () -> bureau.setPrice(0, 0));
        Check.throwsArgument("price 100", () -> bureau.setPrice(2, 100));
        Check.same("setPrice", bureau.setPrice(2, 99), 15);
        Check.same("setPrice", bureau.setPrice(2, 1), 99);
        Check.same("setPrice", bureau.setPrice(0, 11), 30);
        Check.same("quote", bureau.quote(7, 1, GardenBureau.ADULT), 32);
        Check.same("passes keep their prices", bureau.priceOf(1), 240);
        Check.same("takings", bureau.takings(), 375);
        Check.same("undoCount", bureau.undoCount(), 3);
    }

    private static void checkSetRate() {
        GardenBureau bureau = new GardenBureau();
        Check.throwsArgument("rate 0", () -> bureau.setRate(0));
        Check.throwsArgument("rate 21", () -> bureau.setRate(21));
        Check.same("setRate", bureau.setRate(20), 2);
        Check.same("setRate", bureau.setRate(1), 20);
        Check.same("owed", bureau.owed(1), 12);
        Check.same("fineFor", bureau.fineFor(1, 1), 1);
        Check.same("pluck", bureau.pluck(1, 2), 4);
        Check.same("owed", bureau.owed(1), 16);
        Check.same("undoCount", bureau.undoCount(), 3);
    }

    private static void checkQuote() {
        GardenBureau bureau = new GardenBureau();
        int[] adult = {30, 60, 81, 108, 135, 144, 168, 192, 216, 240, 264, 288, 312, 336};
        for (int days = 1; days <= 14; days++) {
            Check.same("adult, days " + days, bureau.quote(1, days, GardenBureau.ADULT), adult[days - 1]);
        }
        Check.same("child", bureau.quote(4, 1, GardenBureau.CHILD), 9);
        Check.same("child, 3 days", bureau.quote(5, 3, GardenBureau.CHILD), 72);
        Check.same("child, 6 days", bureau.quote(7, 6, GardenBureau.CHILD), 187);
        Check.same("two scents", bureau.quote(6, 1, GardenBureau.ADULT), 35);
        Check.same("three scents, 2 days", bureau.quote(7, 2, GardenBureau.ADULT), 130);
        bureau.setPrice(0, 1);
        Check.same("rounded down at the end", bureau.quote(1, 1, GardenBureau.CHILD), 0);
        Check.same("rounded down at the end", bureau.quote(1, 3, GardenBureau.CHILD), 1);
        Check.same("rounded down at the end", bureau.quote(1, 14, GardenBureau.ADULT), 11);
        GardenBureau dear = Feed.bureau("garden 99 99 99 99 99;");
        Check.same("the dearest pass", dear.quote(31, 14, GardenBureau.ADULT), 5544);
        Check.same("a question is no change", bureau.undoCount(), 1);
    }

    private static void checkWrongQuotes() {
        GardenBureau bureau = new GardenBureau();
        Check.throwsArgument("no scents", () -> bureau.quote(0, 1, 0));
        Check.throwsArgument("scents -1", () -> bureau.quote(-1, 1, 0));
        Check.throwsArgument("scents 8", () -> bureau.quote(8, 1, 0));
        Check.throwsArgument("scents 9", () -> bureau.quote(9, 1, 0));
        Check.throwsArgument("days 0", () -> bureau.quote(1, 0, 0));
        Check.throwsArgument("days 15", () -> bureau.quote(1, 15, 0));
        Check.throwsArgument("kind -1", () -> bureau.quote(1, 1, -1));
        Check.throwsArgument("kind 2", () -> bureau.quote(1, 1, 2));
    }

    private static void checkFineFor() {
        GardenBureau bureau = new GardenBureau();
        Check.same("in season", bureau.fineFor(0, 1), 4);
        Check.same("in season", bureau.fineFor(0, 9), 36);
        Check.same("out of season", bureau.fineFor(1, 9), 18);
        Check.throwsArgument("blooms 0", () -> bureau.fineFor(0, 0));
        Check.throwsArgument("blooms 10", () -> bureau.fineFor(0, 10));
        Check.throwsIndex("bed 3, blooms 0", () -> bureau.fineFor(3, 0));
        Feed.passTo(bureau, 96 * 5);
        Check.same("in season on day 5", bureau.fineFor(1, 1), 4);
        Check.same("out of season on day 5", bureau.fineFor(2, 1), 2);
        Check.same("more than the bed has", Feed.bureau("garden 1;bed 0 1 0 0;").fineFor(0, 9), 36);
    }
}
