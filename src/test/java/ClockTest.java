/** Promises 8, 19 and 26 to 29: setPeacocks, pass, time, day, isOpen and ticksUntilOpen. */
public final class ClockTest {
    private ClockTest() {
    }

    public static void main(String[] args) {
        checkPass();
        checkEndOfTime();
        checkOpening();
        checkPeacocks();
        checkWrongPeacocks();
        Check.end("ClockTest");
    }

    private static void checkPass() {
        GardenBureau bureau = new GardenBureau();
        Check.same("time", bureau.time(), 42);
        Check.throwsArgument("pass(0)", () -> bureau.pass(0));
        Check.throwsArgument("pass(-1)", () -> bureau.pass(-1));
        Check.throwsArgument("pass(501)", () -> bureau.pass(501));
        Check.throwsArgument("pass(MAX)", () -> bureau.pass(Integer.MAX_VALUE));
        Check.throwsArgument("pass(MIN)", () -> bureau.pass(Integer.MIN_VALUE));
        Check.same("pass(1)", bureau.pass(1), 43);
        Check.same("pass(52)", bureau.pass(52), 95);
        Check.same("day", bureau.day(), 0);
        Check.same("pass(1)", bureau.pass(1), 96);
        Check.same("day", bureau.day(), 1);
        Check.same("pass(500)", bureau.pass(500), 596);
        Check.same("day", bureau.day(), 6);
        Check.same("time", bureau.time(), 596);
        Check.same("undoCount", bureau.undoCount(), 4);
    }

    private static void checkEndOfTime() {
        GardenBureau bureau = new GardenBureau();
        Feed.passTo(bureau, 9598);
        Check.throwsState("pass(2)", () -> bureau.pass(2));
        Check.throwsState("pass(500)", () -> bureau.pass(500));
        Check.throwsArgument("pass(501)", () -> bureau.pass(501));
        Check.same("pass(1)", bureau.pass(1), 9599);
        Check.throwsState("pass(1)", () -> bureau.pass(1));
        Check.same("time", bureau.time(), 9599);
        Check.same("day", bureau.day(), 99);
        Check.same("ticksUntilOpen at the end of time", bureau.ticksUntilOpen(), 33);
    }

    private static void checkOpening() {
        GardenBureau bureau = Feed.bureau("garden 1;");
        for (int time = 0; time < 200; time++) {
            int tick = time % 96;
            boolean open = tick >= 32 && tick < 50 || tick >= 54 && tick <= 67;
            Check.same("isOpen at " + time, bureau.isOpen(), open);
            int next = tick <= 31 ? 32 : tick <= 49 ? tick : tick <= 53 ? 54 : tick <= 67 ? tick : 96 + 32;
            Check.same("ticksUntilOpen at " + time, bureau.ticksUntilOpen(), next - tick);
            bureau.pass(1);
        }
    }

    private static void checkPeacocks() {
        GardenBureau bureau = new GardenBureau();
        Check.same("all the day", bureau.setPeacocks(0, 95), 0);
        Check.same("ticksUntilOpen", bureau.ticksUntilOpen(), GardenBureau.NONE);
        Check.same("isOpen", bureau.isOpen(), false);
        Check.same("all of the opening", bureau.setPeacocks(32, 67), 0);
        Check.same("ticksUntilOpen", bureau.ticksUntilOpen(), GardenBureau.NONE);
        Check.same("before the last tick", bureau.setPeacocks(32, 66), 1);
        Check.same("ticksUntilOpen", bureau.ticksUntilOpen(), 67 - 42);
        Check.same("behind the first tick", bureau.setPeacocks(33, 67), 1);
        Check.same("ticksUntilOpen", bureau.ticksUntilOpen(), 96 + 32 - 42);
        Check.same("before the opening", bureau.setPeacocks(0, 31), 36);
        Check.same("isOpen", bureau.isOpen(), true);
        Check.same("behind the closing", bureau.setPeacocks(68, 95), 36);
        Check.same("over the closing", bureau.setPeacocks(67, 95), 35);
        Check.same("over the opening", bureau.setPeacocks(0, 32), 35);
        Check.same("one tick", bureau.setPeacocks(42, 42), 35);
        Check.same("isOpen", bureau.isOpen(), false);
        Check.same("ticksUntilOpen", bureau.ticksUntilOpen(), 1);
        Check.same("one tick", bureau.setPeacocks(43, 43), 35);
        Check.same("isOpen", bureau.isOpen(), true);
        Check.same("one tick", bureau.setPeacocks(95, 95), 36);
        Check.same("undoCount", bureau.undoCount(), 8);
    }

    private static void checkWrongPeacocks() {
        GardenBureau bureau = new GardenBureau();
        Check.throwsArgument("first -1", () -> bureau.setPeacocks(-1, 0));
        Check.throwsArgument("first 96", () -> bureau.setPeacocks(96, 96));
        Check.throwsArgument("last 96", () -> bureau.setPeacocks(0, 96));
        Check.throwsArgument("last before first", () -> bureau.setPeacocks(5, 4));
        Check.throwsArgument("MIN and MAX", () -> bureau.setPeacocks(Integer.MIN_VALUE, Integer.MAX_VALUE));
        Check.same("isOpen", bureau.isOpen(), true);
        Check.same("undoCount", bureau.undoCount(), 0);
    }
}
