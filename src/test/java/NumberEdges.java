/** The numbers of scents, beds, passes and cards: the least and the greatest that there is, and the next ones. */
final class NumberEdges {
    private static final int MIN = Recipes.MIN;
    private static final int MAX = Recipes.MAX;
    private static final String NO_PASS = "IndexOutOfBoundsException` if `pass` is not the number of a pass";
    private static final String NO_CARD = "IndexOutOfBoundsException` if `card` is not the number of a card";
    private static final String NO_BED = "IndexOutOfBoundsException` if `bed` is not the number of a bed";
    private static final String NO_SCENT = "IndexOutOfBoundsException` if `scent` is not the number of a scent";
    private static final String NEITHER = "IndexOutOfBoundsException` if `card` or `bed` is not valid";
    private static final String NEITHER_FOR_SCENT = "IndexOutOfBoundsException` if `pass` or `scent` is not valid";

    /** A call with the number of something. */
    private interface Numbered {
        void on(GardenBureau bureau, int number);
    }

    private NumberEdges() {
    }

    static void check() {
        checkPassesOfChanges();
        checkPassesOfQuestions();
        checkCards();
        checkBeds();
        checkScents();
    }

    private static void refused(String name, Numbered call, Probe.Acts before, int... numbers) {
        for (int number : numbers) {
            Refused.index(name + " of number " + number, before, bureau -> call.on(bureau, number));
        }
    }

    private static void known(String name, Numbered call, Probe.Acts before, int... numbers) {
        for (int number : numbers) {
            GardenBureau bureau = Probe.make(before);
            String thrown = Check.thrownBy(() -> call.on(bureau, number));
            Check.same(name + " knows number " + number, thrown.equals("java.lang.IndexOutOfBoundsException"), false);
        }
    }

    private static void passNumber(int promise, String words, String name, Numbered call) {
        Check.about(promise, words);
        refused(name, call, Recipes::nothing, -1, 3, 4, 29, 30, 32, MIN, MAX);
        refused(name, call, Recipes::empty, 0, -1);
        refused(name, call, Recipes::thirtyPasses, 30, 31, -1);
        refused(name, call, Recipes::fiftyCards, 3, 49);
        known(name, call, Recipes::nothing, 0, 1, 2);
        known(name, call, Recipes::thirtyPasses, 0, 29);
    }

    private static void checkPassesOfChanges() {
        passNumber(11, NO_PASS, "extend", (bureau, pass) -> bureau.extend(pass, 1));
        passNumber(11, NO_PASS, "extend by 0", (bureau, pass) -> bureau.extend(pass, 0));
        passNumber(12, NEITHER_FOR_SCENT, "addScent", (bureau, pass) -> bureau.addScent(pass, 0));
        passNumber(13, NO_PASS, "reportLost", GardenBureau::reportLost);
        passNumber(14, NO_PASS, "replaceCard", GardenBureau::replaceCard);
        passNumber(15, NO_PASS, "refundPass", GardenBureau::refundPass);
        passNumber(18, NO_PASS, "payFines", (bureau, pass) -> bureau.payFines(pass, 1));
        passNumber(18, NO_PASS, "payFines of 0", (bureau, pass) -> bureau.payFines(pass, 0));
    }

    private static void checkPassesOfQuestions() {
        passNumber(37, NO_PASS, "scentsOf", GardenBureau::scentsOf);
        passNumber(38, NO_PASS, "firstDay", GardenBureau::firstDay);
        passNumber(39, NO_PASS, "lastDay", GardenBureau::lastDay);
        passNumber(40, NO_PASS, "priceOf", GardenBureau::priceOf);
        passNumber(41, NO_PASS, "cardOf", GardenBureau::cardOf);
        passNumber(42, NO_PASS, "isReturned", GardenBureau::isReturned);
        passNumber(43, NO_PASS, "usedDays", GardenBureau::usedDays);
        passNumber(44, NO_PASS, "visitsWith", GardenBureau::visitsWith);
        passNumber(45, NO_PASS, "refundOf", GardenBureau::refundOf);
        passNumber(46, NO_PASS, "owed", GardenBureau::owed);
        passNumber(47, NO_PASS, "ticksUntilReady", GardenBureau::ticksUntilReady);
        passNumber(64, NO_PASS, "writePass", GardenBureau::writePass);
    }

    private static void cardNumber(int promise, String words, String name, Numbered call) {
        Check.about(promise, words);
        refused(name, call, Recipes::nothing, -1, 3, 4, 49, 50, 64, MIN, MAX);
        refused(name, call, Recipes::empty, 0, -1);
        refused(name, call, Recipes::fiftyCards, 50, 51, -1);
        known(name, call, Recipes::nothing, 0, 1, 2);
        known(name, call, Recipes::fiftyCards, 0, 49);
    }

    private static void checkCards() {
        cardNumber(16, NEITHER, "visit", (bureau, card) -> bureau.visit(card, 0));
        refused("visit of no card at no bed", (bureau, number) -> bureau.visit(number, number), Recipes::nothing, -1, 3, MAX);
        cardNumber(17, NO_CARD, "pluck", (bureau, card) -> bureau.pluck(card, 1));
        cardNumber(17, NO_CARD, "pluck of 0", (bureau, card) -> bureau.pluck(card, 0));
        cardNumber(49, NO_CARD, "passOf", GardenBureau::passOf);
        cardNumber(50, NO_CARD, "isBlocked", GardenBureau::isBlocked);
        cardNumber(51, NEITHER, "whyRefused", (bureau, card) -> bureau.whyRefused(card, 0));
        cardNumber(52, NEITHER, "sign", (bureau, card) -> bureau.sign(card, 0));
        cardNumber(53, NO_CARD, "bedsFor", GardenBureau::bedsFor);
    }

    private static void bedNumber(int promise, String words, String name, Numbered call) {
        Check.about(promise, words);
        refused(name, call, Recipes::nothing, -1, 3, 4, 7, 8, 32, MIN, MAX);
        refused(name, call, Recipes::empty, 0, -1);
        refused(name, call, Recipes::eightBeds, 8, 9, -1);
        known(name, call, Recipes::nothing, 0, 1, 2);
        known(name, call, Recipes::eightBeds, 0, 7);
    }

    private static void checkBeds() {
        bedNumber(16, NEITHER, "visit with card 1", (bureau, bed) -> bureau.visit(1, bed));
        bedNumber(16, NEITHER, "visit with the blocked card 0", (bureau, bed) -> bureau.visit(0, bed));
        bedNumber(31, NO_BED, "scentOf", GardenBureau::scentOf);
        bedNumber(32, NO_BED, "isInSeason", GardenBureau::isInSeason);
        bedNumber(33, NO_BED, "blooms", GardenBureau::blooms);
        bedNumber(34, NO_BED, "placesLeft", GardenBureau::placesLeft);
        bedNumber(35, NO_BED, "visitsTo", GardenBureau::visitsTo);
        bedNumber(51, NEITHER, "whyRefused of card 1", (bureau, bed) -> bureau.whyRefused(1, bed));
        bedNumber(52, NEITHER, "sign for card 1", (bureau, bed) -> bureau.sign(1, bed));
        bedNumber(55, NO_BED, "fineFor", (bureau, bed) -> bureau.fineFor(bed, 1));
        bedNumber(55, NO_BED, "fineFor 0", (bureau, bed) -> bureau.fineFor(bed, 0));
    }

    // A shift by 32 or 33 would wrap around to one by 0 or 1.
    private static void scentNumber(int promise, String words, String name, Numbered call) {
        Check.about(promise, words);
        refused(name, call, Recipes::nothing, -1, 3, 4, 5, 8, 31, 32, 33, MIN, MAX);
        refused(name, call, NumberEdges::oneScent, 1, 2, 32, -1);
        refused(name, call, Recipes::fiveScents, 5, 6, 32, -1);
        known(name, call, Recipes::nothing, 0, 1, 2);
        known(name, call, NumberEdges::oneScent, 0);
        known(name, call, Recipes::fiveScents, 0, 4);
    }

    private static void oneScent(GardenBureau bureau) {
        Feed.run(bureau, "garden 9;bed 0 1 0 0;sell 1 0 1 adult;");
    }

    private static void checkScents() {
        scentNumber(5, NO_SCENT, "setPrice", (bureau, scent) -> bureau.setPrice(scent, 1));
        scentNumber(5, NO_SCENT, "setPrice to 0", (bureau, scent) -> bureau.setPrice(scent, 0));
        scentNumber(7, NO_SCENT, "layBed", (bureau, scent) -> bureau.layBed(scent, 1, 0, 0));
        scentNumber(7, NO_SCENT, "layBed with 0 places", (bureau, scent) -> bureau.layBed(scent, 0, 100, 99));
        scentNumber(12, NEITHER_FOR_SCENT, "addScent", (bureau, scent) -> bureau.addScent(0, scent));
        Check.about(12, NEITHER_FOR_SCENT);
        refused("addScent of no pass", (bureau, number) -> bureau.addScent(number, number), Recipes::nothing, -1, 3, MIN, MAX);
    }
}
