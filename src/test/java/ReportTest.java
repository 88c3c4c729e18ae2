/** Promises 64 and 65: writePass and reportByte. */
public final class ReportTest {
    private ReportTest() {
    }

    public static void main(String[] args) {
        GardenBureau bureau = new GardenBureau();
        Check.same("nothing was written", bureau.reportByte(0), GardenBureau.NONE);
        report(bureau, 1, "x.....");
        report(bureau, 2, "...");
        report(bureau, 0, "x");
        Check.throwsIndex("pass 3", () -> bureau.writePass(3));
        Check.same("the report stays", Picture.report(bureau, 1), "x");
        Feed.passTo(bureau, 96 * 2 + 32);
        Check.same("the report stays", Picture.report(bureau, 1), "x");
        bureau.visit(1, 0);
        report(bureau, 1, "x-x...");
        Feed.passTo(bureau, 96 * 3);
        report(bureau, 1, "x-x...");
        report(bureau, 2, "--.");
        Feed.passTo(bureau, 96 * 4);
        report(bureau, 1, "x-x-..");
        report(bureau, 2, "---");
        bureau.extend(1, 8);
        report(bureau, 1, "x-x-..........");
        bureau.refundPass(1);
        report(bureau, 1, "x-x-..........");
        Check.same("a report is no change", bureau.undoCount(), 6);
        GardenBureau later = Feed.bureau("garden 9;bed 0 1 0 0;sell 1 1 3 adult;pass 224;visit 0 0;");
        report(later, 0, "-x.");
        Check.end("ReportTest");
    }

    private static void report(GardenBureau bureau, int pass, String due) {
        Check.same("writePass", bureau.writePass(pass), due.length());
        Check.same("report", Picture.report(bureau, due.length()), due);
        Check.same("behind the report", bureau.reportByte(due.length()), GardenBureau.NONE);
        Check.same("before the report", bureau.reportByte(-1), GardenBureau.NONE);
        Check.same("far behind", bureau.reportByte(Integer.MAX_VALUE), GardenBureau.NONE);
        Check.same("far before", bureau.reportByte(Integer.MIN_VALUE), GardenBureau.NONE);
    }
}
