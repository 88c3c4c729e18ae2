/** Promises 56 to 63: the accounts and checks. */
public final class AccountTest {
    private AccountTest() {
    }

    public static void main(String[] args) {
        checkSums();
        checkVisitsPerDay();
        checkBlockedShare();
        checkEmptyBureau();
        Check.end("AccountTest");
    }

    private static void sums(GardenBureau bureau, int takings, int refunds, int finesPaid, int plucked, int alarms) {
        Check.same("takings", bureau.takings(), takings);
        Check.same("refunds", bureau.refunds(), refunds);
        Check.same("finesPaid", bureau.finesPaid(), finesPaid);
        Check.same("plucked", bureau.plucked(), plucked);
        Check.same("alarms", bureau.alarms(), alarms);
        Check.same("violations", bureau.violations(), 0);
    }

    private static void checkSums() {
        GardenBureau bureau = new GardenBureau();
        sums(bureau, 375, 0, 0, 5, 0);
        bureau.sell(1, 0, 1, 0);
        sums(bureau, 405, 0, 0, 5, 0);
        bureau.replaceCard(0);
        sums(bureau, 410, 0, 0, 5, 0);
        bureau.extend(0, 1);
        sums(bureau, 440, 0, 0, 5, 0);
        bureau.addScent(0, 2);
        sums(bureau, 470, 0, 0, 5, 0);
        bureau.payFines(0, 8);
        sums(bureau, 478, 0, 8, 5, 0);
        bureau.pluck(1, 2);
        sums(bureau, 478, 0, 8, 7, 0);
        bureau.refundPass(1);
        sums(bureau, 478 + 20 - 100, 100, 28, 7, 0);
        bureau.visit(1, 0);
        sums(bureau, 398, 100, 28, 7, 1);
        bureau.refundPass(3);
        sums(bureau, 383, 115, 28, 7, 1);
    }

    private static void checkVisitsPerDay() {
        GardenBureau bureau = new GardenBureau();
        Check.same("3 visits on 2 days", bureau.visitsPerDay(), 1.5);
        bureau.pass(1);
        bureau.visit(1, 0);
        Check.same("4 visits on 2 days", bureau.visitsPerDay(), 2.0);
        Feed.passTo(bureau, 96 + 32);
        bureau.visit(1, 0);
        Check.same("5 visits on 3 days", bureau.visitsPerDay(), 5.0 / 3.0);
    }

    private static void checkBlockedShare() {
        GardenBureau bureau = new GardenBureau();
        Check.same("1 of 3", bureau.blockedShare(), 1.0f / 3.0f);
        bureau.replaceCard(0);
        Check.same("1 of 4", bureau.blockedShare(), 0.25f);
        bureau.refundPass(2);
        Check.same("2 of 4", bureau.blockedShare(), 0.5f);
        bureau.refundPass(0);
        bureau.refundPass(1);
        Check.same("4 of 4", bureau.blockedShare(), 1.0f);
    }

    private static void checkEmptyBureau() {
        GardenBureau bureau = Feed.bureau("garden 9;");
        Check.same("no visits", bureau.visitsPerDay(), 0.0);
        Check.same("no cards", bureau.blockedShare(), 0.0f);
        sums(bureau, 0, 0, 0, 0, 0);
        bureau.sell(1, 0, 1, 0);
        Check.same("no visits", bureau.visitsPerDay(), 0.0);
        Check.same("no blocked cards", bureau.blockedShare(), 0.0f);
    }
}
