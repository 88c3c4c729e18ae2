/** Promises 7 and 30 to 35: layBed, bedCount, scentOf, isInSeason, blooms, placesLeft and visitsTo. */
public final class BedTest {
    private BedTest() {
    }

    public static void main(String[] args) {
        checkLaying();
        checkWrongNumbers();
        checkSeason();
        checkBlooms();
        checkMostBlooms();
        checkPlaces();
        checkBedsThatAreNot();
        Check.end("BedTest");
    }

    private static void checkLaying() {
        GardenBureau bureau = new GardenBureau();
        for (int bed = 3; bed < 8; bed++) {
            Check.same("bedCount", bureau.bedCount(), bed);
            Check.same("layBed", bureau.layBed(bed % 3, 1 + bed, 0, 99), bed);
            Check.same("scentOf", bureau.scentOf(bed), bed % 3);
            Check.same("placesLeft", bureau.placesLeft(bed), 1 + bed);
            Check.same("blooms", bureau.blooms(bed), 20);
            Check.same("visitsTo", bureau.visitsTo(bed), 0);
        }
        Check.throwsState("a ninth bed", () -> bureau.layBed(0, 1, 0, 0));
        Check.throwsArgument("a ninth bed without places", () -> bureau.layBed(0, 0, 0, 0));
        Check.throwsIndex("a ninth bed without scent", () -> bureau.layBed(3, 0, 0, 0));
        Check.same("bedCount", bureau.bedCount(), 8);
        Check.same("undoCount", bureau.undoCount(), 5);
    }

    private static void checkWrongNumbers() {
        GardenBureau bureau = new GardenBureau();
        Check.throwsIndex("scent 3", () -> bureau.layBed(3, 1, 0, 0));
        Check.throwsIndex("scent -1", () -> bureau.layBed(-1, 0, 0, 0));
        Check.throwsArgument("no places", () -> bureau.layBed(2, 0, 0, 0));
        Check.throwsArgument("21 places", () -> bureau.layBed(2, 21, 0, 0));
        Check.throwsArgument("day -1", () -> bureau.layBed(2, 1, -1, 0));
        Check.throwsArgument("day 100", () -> bureau.layBed(2, 1, 100, 100));
        Check.throwsArgument("last day 100", () -> bureau.layBed(2, 1, 0, 100));
        Check.throwsArgument("last day before the first", () -> bureau.layBed(2, 1, 7, 6));
        Check.same("20 places", bureau.layBed(2, 20, 99, 99), 3);
        Check.same("1 place", bureau.layBed(0, 1, 0, 99), 4);
        Check.same("undoCount", bureau.undoCount(), 2);
    }

    private static void checkSeason() {
        GardenBureau bureau = new GardenBureau();
        int bed = bureau.layBed(0, 1, 1, 2);
        boolean[] due = {false, true, true, false};
        for (int day = 0; day < due.length; day++) {
            Feed.passTo(bureau, Math.max(42, day * 96));
            Check.same("isInSeason on day " + day, bureau.isInSeason(bed), due[day]);
            Feed.passTo(bureau, day * 96 + 95);
            Check.same("isInSeason at the end of day " + day, bureau.isInSeason(bed), due[day]);
        }
    }

    private static void checkBlooms() {
        GardenBureau bureau = new GardenBureau();
        int bed = bureau.layBed(0, 1, 1, 3);
        bureau.pass(53);
        Check.same("before the day", bureau.blooms(bed), 20);
        bureau.pass(1);
        Check.same("day 1", bureau.blooms(bed), 23);
        bureau.pass(95);
        Check.same("the end of day 1", bureau.blooms(bed), 23);
        bureau.pass(400);
        Check.same("day 6", bureau.day(), 6);
        Check.same("days 2 and 3 of the season", bureau.blooms(bed), 29);
        Check.same("bed 0, days 1 to 6", bureau.blooms(0), 15 + 18);
        Check.same("bed 1, days 5 and 6", bureau.blooms(1), 26);
        Check.same("bed 2, day 0 only", bureau.blooms(2), 20);
        int late = bureau.layBed(0, 1, 6, 6);
        Check.same("a bed that is laid on its day", bureau.blooms(late), 20);
    }

    private static void checkMostBlooms() {
        GardenBureau bureau = new GardenBureau();
        int bed = bureau.layBed(0, 1, 0, 99);
        Feed.passTo(bureau, 96 * 9);
        Check.same("day 9", bureau.blooms(bed), 47);
        Feed.passTo(bureau, 96 * 10);
        Check.same("day 10", bureau.blooms(bed), 50);
        Feed.passTo(bureau, 96 * 11);
        Check.same("day 11", bureau.blooms(bed), 50);
        bureau.setPause(0);
        bureau.sell(1, 11, 14, 0);
        bureau.pass(32);
        bureau.visit(3, bed);
        bureau.pluck(3, 1);
        Check.same("plucked", bureau.blooms(bed), 49);
        Feed.passTo(bureau, 96 * 12);
        Check.same("not more than 50", bureau.blooms(bed), 50);
    }

    private static void checkPlaces() {
        GardenBureau bureau = new GardenBureau();
        bureau.setPause(0);
        bureau.pass(1);
        Check.same("visits of the tick before", bureau.visitsTo(0), 2);
        Check.same("placesLeft", bureau.placesLeft(0), 2);
        bureau.visit(1, 0);
        Check.same("placesLeft", bureau.placesLeft(0), 1);
        bureau.visit(1, 0);
        Check.same("placesLeft", bureau.placesLeft(0), 0);
        Check.same("BED_FULL", bureau.visit(1, 0), GardenBureau.BED_FULL);
        Check.same("visitsTo", bureau.visitsTo(0), 4);
        Check.same("visitsTo the other bed", bureau.visitsTo(1), 1);
        Check.same("placesLeft of the other bed", bureau.placesLeft(1), 1);
        bureau.pass(1);
        Check.same("placesLeft", bureau.placesLeft(0), 2);
        Check.same("visitsTo", bureau.visitsTo(0), 4);
    }

    private static void checkBedsThatAreNot() {
        GardenBureau bureau = new GardenBureau();
        for (int bed : new int[] {-1, 3, 8, Integer.MIN_VALUE, Integer.MAX_VALUE}) {
            Check.throwsIndex("scentOf", () -> bureau.scentOf(bed));
            Check.throwsIndex("isInSeason", () -> bureau.isInSeason(bed));
            Check.throwsIndex("blooms", () -> bureau.blooms(bed));
            Check.throwsIndex("placesLeft", () -> bureau.placesLeft(bed));
            Check.throwsIndex("visitsTo", () -> bureau.visitsTo(bed));
            Check.throwsIndex("fineFor", () -> bureau.fineFor(bed, 0));
            Check.throwsIndex("whyRefused", () -> bureau.whyRefused(0, bed));
            Check.throwsIndex("sign", () -> bureau.sign(0, bed));
            Check.throwsIndex("visit", () -> bureau.visit(0, bed));
        }
        Check.same("undoCount", bureau.undoCount(), 0);
    }
}
