/** Promise 1: a new object is as by its script, with nothing to undo and an empty input buffer. */
public final class NewObjectTest {
    private static final String FOUNDING = "garden 30 20 15; bed 0 2 0 9; bed 1 1 5 9; bed 2 3 0 0; "
            + "sell 1 0 1 adult; sell 3 0 6 adult; sell 7 1 3 child; pass 40; visit 0 0; visit 1 1; pluck 0 2; pass 2; "
            + "visit 1 0; pluck 1 3; lost 0;";

    private NewObjectTest() {
    }

    public static void main(String[] args) {
        checkOutsideOfState();
        checkState();
        GardenBureau scripted = Feed.bureau(FOUNDING);
        Check.same("a new object", Picture.of(new GardenBureau()), Picture.of(scripted));
        Check.end("NewObjectTest");
    }

    private static void checkOutsideOfState() {
        GardenBureau bureau = new GardenBureau();
        Check.same("undoCount", bureau.undoCount(), 0);
        Check.same("undo", bureau.undo(), GardenBureau.NONE);
        Check.same("kind", bureau.scriptErrorKind(), 0);
        Check.same("offset", bureau.scriptErrorOffset(), GardenBureau.NONE);
        Check.same("report", bureau.reportByte(0), GardenBureau.NONE);
        Check.throwsExactly("snapshot", java.util.NoSuchElementException.class, bureau::restoreSnapshot);
        Check.same("empty input", bureau.append(0, 0, 0, 0, 0), 20);
    }

    private static void checkState() {
        GardenBureau bureau = new GardenBureau();
        Check.same("time", bureau.time(), 42);
        Check.same("beds", bureau.bedCount(), 3);
        Check.same("passes", bureau.passCount(), 3);
        Check.same("cards", bureau.cardCount(), 3);
        Check.same("takings", bureau.takings(), 375);
        Check.same("owed 0", bureau.owed(0), 8);
        Check.same("owed 1", bureau.owed(1), 12);
        Check.same("plucked", bureau.plucked(), 5);
        Check.same("blooms 0", bureau.blooms(0), 15);
        Check.same("rate", bureau.setRate(2), 2);
        Check.same("pause", bureau.setPause(1), 1);
        Check.same("price 0", bureau.setPrice(0, 30), 30);
        Check.same("price 1", bureau.setPrice(1, 20), 20);
        Check.same("price 2", bureau.setPrice(2, 15), 15);
        Check.throwsIndex("price 3", () -> bureau.setPrice(3, 15));
    }
}
