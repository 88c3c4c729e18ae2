/** The edges of the promises 64 and 65: the report. */
final class ReportEdges {
    private static final int NONE = GardenBureau.NONE;

    private ReportEdges() {
    }

    static void check() {
        checkNothingWritten();
        checkLengths();
        checkLetters();
        checkReplacing();
    }

    private static void checkNothingWritten() {
        Check.about(65, "or NONE if the report has no such byte or nothing was written");
        GardenBureau bureau = new GardenBureau();
        for (int index : new int[] {0, 1, -1, 13, 14, Recipes.MIN, Recipes.MAX}) {
            Check.same("reportByte(" + index + ")", bureau.reportByte(index), NONE);
        }
        Check.throwsIndex("writePass(3)", () -> bureau.writePass(3));
        Check.same("reportByte(0) behind a refused call", bureau.reportByte(0), NONE);
    }

    private static void report(GardenBureau bureau, int pass, String due) {
        Check.about(64, "Returns the length of the report in bytes");
        Check.same("writePass(" + pass + ") at " + bureau.time(), bureau.writePass(pass), due.length());
        Check.about(64, "\"x\" if it is used, \"-\" if it is not used and before the present day, and \".\" otherwise");
        Check.same("the report at " + bureau.time(), Picture.report(bureau, due.length()), due);
        Check.about(65, "or NONE if the report has no such byte or nothing was written");
        for (int index : new int[] {-1, due.length(), due.length() + 1, 14, 15, Recipes.MIN, Recipes.MAX}) {
            Check.same("reportByte(" + index + ") of " + due.length(), bureau.reportByte(index), NONE);
        }
        Check.about(65, "`int reportByte(int index)`: Returns a byte of the report");
        Check.same("the first byte", bureau.reportByte(0), due.charAt(0));
        Check.same("the last byte", bureau.reportByte(due.length() - 1), due.charAt(due.length() - 1));
    }

    private static void checkLengths() {
        GardenBureau bureau = Probe.make(Recipes::empty);
        for (int days = 14; days >= 1; days--) {
            int pass = bureau.sell(1, 0, days, GardenBureau.ADULT);
            report(bureau, pass, ".".repeat(days));
        }
        report(bureau, 0, "..............");
        bureau.extend(13, 13);
        report(bureau, 13, "..............");
        GardenBureau late = Probe.make(Recipes::empty);
        late.sell(1, 99, 14, GardenBureau.ADULT);
        Recipes.goTo(late, 9599);
        report(late, 0, "..............");
    }

    private static void checkLetters() {
        GardenBureau bureau = Feed.bureau("garden 9;bed 0 1 0 0;sell 1 1 4 adult;");
        report(bureau, 0, "....");
        Recipes.goTo(bureau, 95);
        report(bureau, 0, "....");
        Recipes.goTo(bureau, 96);
        report(bureau, 0, "....");
        Recipes.goTo(bureau, 128);
        bureau.visit(0, 0);
        report(bureau, 0, "x...");
        Recipes.goTo(bureau, 191);
        report(bureau, 0, "x...");
        Recipes.goTo(bureau, 287);
        report(bureau, 0, "x...");
        Recipes.goTo(bureau, 288);
        report(bureau, 0, "x-..");
        Recipes.goTo(bureau, 384 + 67);
        report(bureau, 0, "x--.");
        bureau.visit(0, 0);
        report(bureau, 0, "x--x");
        bureau.undo();
        Recipes.goTo(bureau, 480);
        report(bureau, 0, "x---");
        GardenBureau all = Probe.make(Recipes::visited);
        for (int day = 1; day < 14; day++) {
            all.pass(96);
            all.visit(0, 0);
        }
        report(all, 0, "xxxxxxxxxxxxxx");
    }

    private static void checkReplacing() {
        Check.about(64, "in place of the previous report");
        GardenBureau bureau = new GardenBureau();
        bureau.writePass(1);
        Check.same("the report", Picture.report(bureau, 6), "x.....");
        bureau.writePass(0);
        Check.same("the last byte of the previous report", bureau.reportByte(1), NONE);
        bureau.extend(0, 1);
        bureau.pass(96);
        Check.same("the report stays as it was written", Picture.report(bureau, 1), "x");
        Check.same("and its length too", bureau.reportByte(1), NONE);
        bureau.undo();
        Check.same("a report is no change", bureau.undo(), 0);
        Check.same("the report behind undo", bureau.reportByte(0), 'x');
        bureau.saveSnapshot();
        bureau.writePass(2);
        bureau.restoreSnapshot();
        Check.same("the report behind a restored snapshot", Picture.report(bureau, 3), "...");
    }
}
