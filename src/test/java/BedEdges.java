/** The edges of the promises 7 and 30 to 35: beds, their seasons, blooms and places. */
final class BedEdges {
    private static final String OUT_OF_RANGE = "IllegalArgumentException` if another parameter is out of range";

    private BedEdges() {
    }

    static void check() {
        checkLayBed();
        checkWrongBeds();
        checkMostBeds();
        checkScents();
        checkSeason();
        checkFirstBlooms();
        checkBloomsOfADay();
        checkMostBlooms();
        checkPlaces();
    }

    private static void checkLayBed() {
        Check.about(7, "Returns the number of the bed");
        int[][] beds = {{0, 1, 0, 0}, {2, 20, 0, 99}, {1, 1, 99, 99}, {0, 20, 98, 99}, {2, 2, 0, 1}};
        GardenBureau bureau = new GardenBureau();
        for (int index = 0; index < beds.length; index++) {
            int[] bed = beds[index];
            Check.same("layBed", bureau.layBed(bed[0], bed[1], bed[2], bed[3]), 3 + index);
            Check.same("scentOf", bureau.scentOf(3 + index), bed[0]);
            Check.same("placesLeft", bureau.placesLeft(3 + index), bed[1]);
            Check.same("undoCount()", bureau.undoCount(), 1 + index);
        }
        GardenBureau first = Probe.make(Recipes::empty);
        Check.same("the first bed", first.layBed(0, 1, 0, 0), 0);
    }

    private static void wrong(int places, int firstDay, int lastDay) {
        Refused.argument("layBed(0, " + places + ", " + firstDay + ", " + lastDay + ")", Recipes::nothing,
                bureau -> bureau.layBed(0, places, firstDay, lastDay));
    }

    private static void checkWrongBeds() {
        Check.about(7, OUT_OF_RANGE);
        for (int places : new int[] {0, -1, 21, Recipes.MIN, Recipes.MAX}) {
            wrong(places, 0, 0);
        }
        for (int day : new int[] {-1, 100, Recipes.MIN, Recipes.MAX}) {
            wrong(1, day, 99);
            wrong(1, day, day);
            wrong(1, 0, day);
        }
        wrong(1, 1, 0);
        wrong(1, 99, 98);
        wrong(1, 50, 49);
        wrong(1, 50, -1);
        wrong(20, 99, 100);
    }

    private static void checkMostBeds() {
        Check.about(7, "IllegalStateException` if 8 beds were laid out");
        GardenBureau bureau = Probe.make(Recipes::empty);
        for (int bed = 0; bed < 8; bed++) {
            Check.about(30, "At most 8 beds can be laid out; they are numbered from 0");
            Check.same("bedCount()", bureau.bedCount(), bed);
            Check.about(7, "IllegalStateException` if 8 beds were laid out");
            Check.same("layBed", bureau.layBed(0, 1, 0, 0), bed);
        }
        Check.about(30, "At most 8 beds can be laid out; they are numbered from 0");
        Check.same("bedCount()", bureau.bedCount(), 8);
        Check.about(7, "IllegalStateException` if 8 beds were laid out");
        Refused.state("a ninth bed", Recipes::eightBeds, other -> other.layBed(0, 1, 0, 0));
        Check.about(7, "If several exceptions apply, the one that is listed first is thrown");
        Refused.argument("a ninth bed without places", Recipes::eightBeds, other -> other.layBed(0, 0, 0, 0));
        Refused.argument("a ninth bed up to day 100", Recipes::eightBeds, other -> other.layBed(0, 1, 0, 100));
        Refused.index("a ninth bed of no scent", Recipes::eightBeds, other -> other.layBed(3, 1, 0, 0));
        Refused.index("a ninth bed of no scent without places", Recipes::eightBeds, other -> other.layBed(-1, 0, 0, 0));
        Check.same("undo()", bureau.undo(), 7);
        Check.same("the eighth bed again", bureau.layBed(0, 1, 0, 0), 7);
    }

    private static void checkScents() {
        Check.about(31, "There are 1 to 5 scents, numbered from 0");
        for (int scents = 1; scents <= 5; scents++) {
            GardenBureau bureau = Feed.bureau("garden" + " 1".repeat(scents) + ";bed " + (scents - 1) + " 1 0 0;bed 0 1 0 0;");
            Check.same("scentOf(0)", bureau.scentOf(0), scents - 1);
            Check.same("scentOf(1)", bureau.scentOf(1), 0);
        }
    }

    private static void season(int first, int last, int day, boolean due) {
        GardenBureau bureau = Probe.make(Recipes::empty);
        bureau.layBed(0, 1, first, last);
        for (int tick : new int[] {0, 95}) {
            Recipes.goTo(bureau, day * 96 + tick);
            Check.same("season " + first + " to " + last + ", day " + day, bureau.isInSeason(0), due);
        }
    }

    private static void checkSeason() {
        Check.about(32, "It is in season on the days from the first to the last day of its season");
        season(0, 0, 0, true);
        season(0, 0, 1, false);
        season(1, 1, 0, false);
        season(1, 1, 1, true);
        season(1, 1, 2, false);
        season(1, 99, 0, false);
        season(5, 9, 4, false);
        season(5, 9, 5, true);
        season(5, 9, 9, true);
        season(5, 9, 10, false);
        season(0, 98, 98, true);
        season(0, 98, 99, false);
        season(0, 99, 99, true);
        season(99, 99, 98, false);
        season(99, 99, 99, true);
    }

    private static void checkFirstBlooms() {
        Check.about(33, "0 to 50 blooms, 20 at first");
        Check.same("a new bed", bloomsOf(0, 99, 0, 0), 20);
        Check.same("a bed that is laid on a day of its season", bloomsOf(0, 99, 96, 96), 20);
        Check.same("the same at the end of the day", bloomsOf(0, 99, 96, 191), 20);
        Check.same("the same a day later", bloomsOf(0, 99, 96, 192), 23);
        GardenBureau bureau = Probe.make(Recipes::visited);
        bureau.pluck(0, 9);
        bureau.pluck(0, 9);
        Check.same("two are left", bureau.blooms(0), 2);
        bureau.pluck(0, 2);
        Check.same("none is left", bureau.blooms(0), 0);
        bureau.pass(64);
        Check.same("the next day", bureau.blooms(0), 3);
    }

    private static int bloomsOf(int first, int last, int laid, int asked) {
        GardenBureau bureau = Probe.make(Recipes::empty);
        Recipes.goTo(bureau, laid);
        bureau.layBed(0, 1, first, last);
        Recipes.goTo(bureau, asked);
        return bureau.blooms(0);
    }

    private static void checkBloomsOfADay() {
        Check.about(33, "When a day begins (its tick 0), each bed that is in season on this day gets 3 blooms");
        Check.same("before the tick 0", bloomsOf(0, 99, 0, 95), 20);
        Check.same("in the tick 0", bloomsOf(0, 99, 0, 96), 23);
        Check.same("behind the tick 0", bloomsOf(0, 99, 0, 191), 23);
        Check.same("before the season", bloomsOf(2, 3, 0, 191), 20);
        Check.same("the first day of the season", bloomsOf(2, 3, 0, 192), 23);
        Check.same("the last day of the season", bloomsOf(2, 3, 0, 288), 26);
        Check.same("behind the season", bloomsOf(2, 3, 0, 384), 26);
        Check.same("the season of the first day", bloomsOf(0, 0, 0, 96), 20);
        Check.same("the season of the last day", bloomsOf(99, 99, 0, 9599), 23);
        Check.same("before the season of the last day", bloomsOf(99, 99, 0, 9503), 20);
        GardenBureau bureau = Feed.bureau("garden 9;bed 0 1 0 99;bed 0 1 3 4;bed 0 1 6 6;pass 95;pass 500;");
        Check.same("six days begin in 500 ticks", bureau.day(), 6);
        Check.same("a bed that is always in season", bureau.blooms(0), 38);
        Check.same("a bed that is in season on two of them", bureau.blooms(1), 26);
        Check.same("a bed that is in season on the last of them", bureau.blooms(2), 23);
    }

    private static void checkMostBlooms() {
        Check.about(33, "but not more than with which it has 50");
        Check.same("day 9", bloomsOf(0, 99, 0, 9 * 96), 47);
        Check.same("day 10", bloomsOf(0, 99, 0, 10 * 96), 50);
        Check.same("day 11", bloomsOf(0, 99, 0, 11 * 96), 50);
        Check.same("day 99", bloomsOf(0, 99, 0, 9599), 50);
        GardenBureau bureau = Feed.bureau("garden 9;bed 0 1 0 99;pass 500;pass 460;");
        bureau.sell(1, 10, 14, GardenBureau.ADULT);
        int[] due = {50, 50, 50, 50, 49};
        for (int plucked = 0; plucked <= 4; plucked++) {
            Recipes.goTo(bureau, (10 + plucked) * 96 + 32);
            Check.same("visit", bureau.visit(0, 0), GardenBureau.ALLOWED);
            if (plucked > 0) {
                bureau.pluck(0, plucked);
            }
            Check.same("blooms", bureau.blooms(0), 50 - plucked);
            Recipes.goTo(bureau, (11 + plucked) * 96);
            Check.same("the day behind " + plucked + " plucked blooms", bureau.blooms(0), due[plucked]);
        }
    }

    private static void checkPlaces() {
        for (int places : new int[] {1, 2, 20}) {
            GardenBureau bureau = Feed.bureau("garden 9;bed 0 " + places + " 0 9;bed 0 1 0 9;sell 1 0 1 adult;pass 32;");
            bureau.setPause(0);
            for (int visit = 1; visit <= places; visit++) {
                bureau.visit(0, 0);
                Check.about(34, "Returns its places minus the visits of this tick");
                Check.same("placesLeft(0) of " + places, bureau.placesLeft(0), places - visit);
                Check.about(35, "Returns the number of all visits to a bed");
                Check.same("visitsTo(0)", bureau.visitsTo(0), visit);
            }
            Check.same("a full bed", bureau.visit(0, 0), GardenBureau.BED_FULL);
            Check.same("visitsTo(0)", bureau.visitsTo(0), places);
            Check.same("visitsTo(1)", bureau.visitsTo(1), 0);
            Check.about(34, "Returns its places minus the visits of this tick");
            Check.same("placesLeft(0)", bureau.placesLeft(0), 0);
            Check.same("placesLeft(1)", bureau.placesLeft(1), 1);
            bureau.pass(1);
            Check.same("placesLeft(0) in the next tick", bureau.placesLeft(0), places);
            bureau.undo();
            Check.same("placesLeft(0) in the tick before", bureau.placesLeft(0), 0);
            bureau.pass(96);
            Check.same("placesLeft(0) in the same tick of the next day", bureau.placesLeft(0), places);
            Check.about(35, "Returns the number of all visits to a bed");
            Check.same("visitsTo(0)", bureau.visitsTo(0), places);
        }
    }
}
