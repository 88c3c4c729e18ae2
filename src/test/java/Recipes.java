/** Bureaus at the edges: without anything, and with all that there is room for. */
final class Recipes {
    static final int MIN = Integer.MIN_VALUE;
    static final int MAX = Integer.MAX_VALUE;

    private Recipes() {
    }

    static void nothing(GardenBureau bureau) {
    }

    /** One scent; no bed, no pass and no card. */
    static void empty(GardenBureau bureau) {
        Feed.run(bureau, "garden 9;");
    }

    static void fiveScents(GardenBureau bureau) {
        Feed.run(bureau, "garden 1 2 3 4 5;bed 4 1 0 0;sell 1 0 1 adult;");
    }

    static void eightBeds(GardenBureau bureau) {
        while (bureau.bedCount() < 8) {
            bureau.layBed(0, 1, 0, 99);
        }
    }

    static void thirtyPasses(GardenBureau bureau) {
        for (int pass = 3; pass < 30; pass++) {
            bureau.sell(1, 0, 1, GardenBureau.ADULT);
        }
    }

    /** Pass 0 has the newest of 50 cards, and there are but three passes. */
    static void fiftyCards(GardenBureau bureau) {
        bureau.replaceCard(0);
        for (int card = 4; card < 50; card++) {
            bureau.reportLost(0);
            bureau.replaceCard(0);
        }
    }

    static void goTo(GardenBureau bureau, int time) {
        Feed.passTo(bureau, time);
    }

    /** A bed of scent 0 that is in season, a pass of 14 days with card 0, and a visit at time 32. */
    static void visited(GardenBureau bureau) {
        Feed.run(bureau, "garden 20 5;bed 0 20 0 99;sell 1 0 14 adult;pass 32;visit 0 0;");
    }
}
