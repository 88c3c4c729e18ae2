/** The edges of the promises 8, 19 and 26 to 29: the time, the day, and when the garden is open. */
final class TimeEdges {
    private static final int LAST = 9599;
    private static final int NONE = GardenBureau.NONE;

    private TimeEdges() {
    }

    static void check() {
        checkTimeAndDay();
        checkPass();
        checkEndOfTime();
        checkOpenTicks();
        checkOpenBesidePeacocks();
        checkTicksUntilOpen();
        checkNeverOpen();
        checkSetPeacocks();
        checkWrongPeacocks();
    }

    private static void checkTimeAndDay() {
        int[] times = {0, 1, 95, 96, 97, 191, 192, 959, 960, 9503, 9504, LAST};
        int[] days = {0, 0, 0, 1, 1, 1, 2, 9, 10, 98, 99, 99};
        GardenBureau bureau = Probe.make(Recipes::empty);
        for (int index = 0; index < times.length; index++) {
            Recipes.goTo(bureau, times[index]);
            Check.about(26, "it is 0 at first and at most 9599");
            Check.same("time()", bureau.time(), times[index]);
            Check.about(27, "the day is the time divided by 96, rounded down");
            Check.same("day() at " + times[index], bureau.day(), days[index]);
        }
    }

    private static void checkPass() {
        Check.about(19, "`ticks`: 1 to 500");
        for (int ticks : new int[] {1, 2, 95, 96, 499, 500}) {
            GardenBureau bureau = new GardenBureau();
            Check.same("pass(" + ticks + ")", bureau.pass(ticks), 42 + ticks);
            Check.same("time()", bureau.time(), 42 + ticks);
            Check.same("undoCount()", bureau.undoCount(), 1);
        }
        Check.about(19, "IllegalArgumentException` if `ticks` is out of range");
        for (int ticks : new int[] {0, -1, 501, 502, 9557, Recipes.MIN, Recipes.MAX, Recipes.MAX - 41}) {
            Refused.argument("pass(" + ticks + ")", Recipes::nothing, bureau -> bureau.pass(ticks));
        }
    }

    private static void checkEndOfTime() {
        Check.about(19, "IllegalStateException` if the time would become greater than 9599");
        GardenBureau bureau = new GardenBureau();
        Recipes.goTo(bureau, LAST - 500);
        Check.same("pass(500) to the last time", bureau.pass(500), LAST);
        Refused.state("pass(500) to 9600", other -> Recipes.goTo(other, LAST - 499), other -> other.pass(500));
        Refused.state("pass(2) to 9600", other -> Recipes.goTo(other, LAST - 1), other -> other.pass(2));
        Refused.state("pass(1) to 9600", other -> Recipes.goTo(other, LAST), other -> other.pass(1));
        Refused.state("pass(500) to 10099", other -> Recipes.goTo(other, LAST), other -> other.pass(500));
        Refused.argument("pass(501) to 10100", other -> Recipes.goTo(other, LAST), other -> other.pass(501));
        Refused.argument("pass(0) at the last time", other -> Recipes.goTo(other, LAST), other -> other.pass(0));
        Check.same("undo()", bureau.undo(), 7);
        Check.same("pass(499)", bureau.pass(499), LAST - 1);
        Check.same("pass(1)", bureau.pass(1), LAST);
    }

    private static void open(GardenBureau bureau, int tick, boolean due) {
        Check.same("isOpen() at " + bureau.time() + ", tick " + tick, bureau.isOpen(), due);
    }

    private static void checkOpenTicks() {
        Check.about(28, "The garden is open in the ticks 32 to 67 of each day");
        for (int day : new int[] {0, 1, 50, 99}) {
            GardenBureau bureau = Probe.make(Recipes::empty);
            for (int tick : new int[] {0, 31, 32, 33, 49, 50, 51, 52, 53, 54, 66, 67, 68, 95}) {
                Recipes.goTo(bureau, day * 96 + tick);
                open(bureau, tick, tick >= 32 && tick <= 49 || tick >= 54 && tick <= 67);
            }
        }
    }

    private static void checkOpenBesidePeacocks() {
        Check.about(28, "without the ticks in which the peacocks walk");
        int[][] walks = {{0, 31}, {0, 32}, {31, 31}, {32, 32}, {32, 66}, {33, 67}, {32, 67}, {67, 67}, {67, 95}, {68, 68},
            {68, 95}, {0, 95}, {0, 0}, {95, 95}, {40, 41}};
        for (int[] walk : walks) {
            GardenBureau bureau = Probe.make(Recipes::empty);
            bureau.setPeacocks(walk[0], walk[1]);
            for (int tick = 0; tick < 96; tick++) {
                boolean walks0 = walk[0] <= tick && tick <= walk[1];
                open(bureau, tick, tick > 31 && tick < 68 && !walks0);
                bureau.pass(1);
            }
        }
    }

    private static void until(GardenBureau bureau, int time, int due) {
        Recipes.goTo(bureau, time);
        Check.same("ticksUntilOpen() at " + time, bureau.ticksUntilOpen(), due);
    }

    private static void checkTicksUntilOpen() {
        Check.about(29, "Returns the number of ticks until the garden is open, 0 if it is open now");
        int[][] first = {{0, 32}, {1, 31}, {31, 1}, {32, 0}, {49, 0}, {50, 4}, {53, 1}, {54, 0}, {67, 0}, {68, 60}, {95, 33},
            {96, 32}, {127, 1}, {128, 0}, {9571, 0}, {9572, 60}, {LAST, 33}};
        GardenBureau bureau = Probe.make(Recipes::empty);
        for (int[] row : first) {
            until(bureau, row[0], row[1]);
        }
        GardenBureau early = Probe.make(Recipes::empty);
        early.setPeacocks(33, 67);
        int[][] firstTickOnly = {{0, 32}, {31, 1}, {32, 0}, {33, 95}, {67, 61}, {128, 0}, {129, 95}};
        for (int[] row : firstTickOnly) {
            until(early, row[0], row[1]);
        }
        GardenBureau late = Probe.make(Recipes::empty);
        late.setPeacocks(0, 66);
        int[][] lastTickOnly = {{0, 67}, {66, 1}, {67, 0}, {68, 95}, {95, 68}, {163, 0}};
        for (int[] row : lastTickOnly) {
            until(late, row[0], row[1]);
        }
    }

    private static void checkNeverOpen() {
        Check.about(29, "NONE if the peacocks walk in all its ticks");
        int[][] walks = {{32, 67}, {31, 67}, {32, 68}, {0, 95}, {0, 67}, {32, 95}};
        for (int[] walk : walks) {
            GardenBureau bureau = Probe.make(Recipes::empty);
            bureau.setPeacocks(walk[0], walk[1]);
            for (int time : new int[] {0, 31, 32, 67, 68, 95, 96, LAST}) {
                until(bureau, time, NONE);
            }
            bureau.undo();
            Check.same("isOpen() of the last tick", bureau.isOpen(), false);
        }
    }

    private static void checkSetPeacocks() {
        Check.about(8, "Returns the number of ticks of a day in which the garden is open afterwards");
        int[][] walks = {{0, 0, 36}, {0, 31, 36}, {31, 31, 36}, {0, 32, 35}, {31, 32, 35}, {32, 32, 35}, {32, 33, 34},
            {50, 53, 32}, {49, 54, 30}, {66, 67, 34}, {67, 67, 35}, {67, 68, 35}, {67, 95, 35}, {68, 68, 36}, {68, 95, 36},
            {95, 95, 36}, {32, 66, 1}, {33, 67, 1}, {33, 66, 2}, {32, 67, 0}, {31, 68, 0}, {0, 95, 0}, {0, 67, 0}};
        for (int[] walk : walks) {
            GardenBureau bureau = new GardenBureau();
            Check.same("setPeacocks(" + walk[0] + ", " + walk[1] + ")", bureau.setPeacocks(walk[0], walk[1]), walk[2]);
            Check.same("undoCount()", bureau.undoCount(), 1);
        }
    }

    private static void checkWrongPeacocks() {
        Check.about(8, "IllegalArgumentException` if `first` or `last` is out of range");
        int[][] walks = {{-1, 0}, {-1, -1}, {0, -1}, {1, 0}, {95, 94}, {50, 49}, {0, 96}, {95, 96}, {96, 96}, {96, 95},
            {Recipes.MIN, 0}, {0, Recipes.MAX}, {Recipes.MAX, Recipes.MAX}, {Recipes.MIN, Recipes.MIN}, {0, Recipes.MIN}};
        for (int[] walk : walks) {
            Refused.argument("setPeacocks(" + walk[0] + ", " + walk[1] + ")", Recipes::nothing,
                    bureau -> bureau.setPeacocks(walk[0], walk[1]));
        }
    }
}
