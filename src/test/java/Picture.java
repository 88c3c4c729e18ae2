/** All that can be asked about the state of a bureau, as a text; asking changes only the report. */
final class Picture {
    private Picture() {
    }

    static String of(GardenBureau b) {
        return ofHead(b) + ofPasses(b, 0, b.passCount()) + ofCards(b, 0, b.cardCount());
    }

    /** All but the passes and the cards. */
    static String ofHead(GardenBureau b) {
        StringBuilder text = new StringBuilder();
        add(text, "time", b.time(), b.day(), b.isOpen() ? 1 : 0, b.ticksUntilOpen());
        add(text, "books", b.takings(), b.refunds(), b.finesPaid(), b.plucked(), b.alarms(), b.violations());
        text.append(" shares ").append(b.visitsPerDay()).append(' ').append(b.blockedShare());
        for (int scent = 0; scent < 5; scent++) {
            add(text, "scent", quoteOrNone(b, 1 << scent));
        }
        for (int bed = 0; bed < b.bedCount(); bed++) {
            add(text, "\nbed", b.scentOf(bed), b.isInSeason(bed) ? 1 : 0, b.blooms(bed), b.placesLeft(bed),
                    b.visitsTo(bed), b.fineFor(bed, 1), b.fineFor(bed, 9));
        }
        return text.toString();
    }

    static String ofPasses(GardenBureau b, int from, int to) {
        StringBuilder text = new StringBuilder();
        for (int pass = from; pass < to; pass++) {
            addPass(text, b, pass);
        }
        return text.toString();
    }

    static String ofCards(GardenBureau b, int from, int to) {
        StringBuilder text = new StringBuilder();
        for (int card = from; card < to; card++) {
            add(text, "\ncard", b.passOf(card), b.isBlocked(card) ? 1 : 0, b.bedsFor(card));
            for (int bed = 0; bed < b.bedCount(); bed++) {
                add(text, "bed", b.whyRefused(card, bed), b.sign(card, bed));
            }
        }
        return text.toString();
    }

    private static void addPass(StringBuilder text, GardenBureau b, int pass) {
        add(text, "\npass", b.scentsOf(pass), b.firstDay(pass), b.lastDay(pass), b.priceOf(pass), b.cardOf(pass),
                b.isReturned(pass) ? 1 : 0, b.usedDays(pass), b.visitsWith(pass), b.refundOf(pass), b.owed(pass),
                b.ticksUntilReady(pass));
        text.append(' ').append(report(b, b.writePass(pass)));
    }

    static String report(GardenBureau b, int length) {
        StringBuilder text = new StringBuilder();
        for (int index = 0; index < length; index++) {
            text.append((char) b.reportByte(index));
        }
        return text.toString();
    }

    private static int quoteOrNone(GardenBureau b, int scents) {
        try {
            return b.quote(scents, 1, GardenBureau.ADULT);
        } catch (IllegalArgumentException e) {
            return GardenBureau.NONE;
        }
    }

    private static void add(StringBuilder text, String name, int... values) {
        text.append(' ').append(name);
        for (int value : values) {
            text.append(' ').append(value);
        }
    }
}
