/** The edges of the promises 56 to 63: the accounts, the shares, and the violations, which are always 0. */
final class AccountEdges {
    private static final int ADULT = GardenBureau.ADULT;

    private AccountEdges() {
    }

    static void check() {
        checkEmptyBureau();
        checkSums();
        checkVisitsPerDay();
        checkBlockedShare();
        checkViolations();
    }

    private static void sums(String when, GardenBureau bureau, int takings, int refunds, int finesPaid, int plucked) {
        Check.about(56, "Returns the sum of all that was paid (also by refunds that paid fines) minus the sum of all refunds");
        Check.same(when + ", takings()", bureau.takings(), takings);
        Check.about(57, "Returns the sum of all refunds, also as far as they paid fines");
        Check.same(when + ", refunds()", bureau.refunds(), refunds);
        Check.about(58, "Returns the sum of all fines that were paid");
        Check.same(when + ", finesPaid()", bureau.finesPaid(), finesPaid);
        Check.about(59, "Returns the number of blooms that were plucked");
        Check.same(when + ", plucked()", bureau.plucked(), plucked);
        Check.about(63, "it is always 0");
        Check.same(when + ", violations()", bureau.violations(), 0);
    }

    private static void checkEmptyBureau() {
        GardenBureau bureau = Probe.make(Recipes::empty);
        sums("empty", bureau, 0, 0, 0, 0);
        Check.about(60, "Returns the number of alarms");
        Check.same("alarms()", bureau.alarms(), 0);
        Check.about(30, "Returns the number of beds");
        Check.same("bedCount()", bureau.bedCount(), 0);
        Check.about(36, "Returns the number of passes that were sold");
        Check.same("passCount()", bureau.passCount(), 0);
        Check.about(48, "Returns the number of cards that were issued");
        Check.same("cardCount()", bureau.cardCount(), 0);
    }

    // The pass costs 40 and has a refund of 10; each bloom costs 4.
    private static void checkSums() {
        GardenBureau bureau = Feed.bureau("garden 20 9;bed 0 20 0 99;sell 1 0 2 adult;pass 32;visit 0 0;");
        sums("a pass", bureau, 40, 0, 0, 0);
        bureau.pluck(0, 4);
        sums("a fine of 16", bureau, 40, 0, 0, 4);
        bureau.payFines(0, 1);
        sums("1 of it is paid", bureau, 41, 0, 1, 4);
        bureau.reportLost(0);
        sums("a lost card", bureau, 41, 0, 1, 4);
        bureau.replaceCard(0);
        sums("the fee", bureau, 46, 0, 1, 4);
        bureau.refundPass(0);
        sums("a refund that pays only fines", bureau, 46, 10, 11, 4);
        bureau.payFines(0, 5);
        sums("the rest of the fine", bureau, 51, 10, 16, 4);
        bureau.sell(2, 0, 1, ADULT);
        sums("another pass", bureau, 60, 10, 16, 4);
        bureau.addScent(1, 0);
        sums("a further scent", bureau, 80, 10, 16, 4);
        bureau.extend(1, 1);
        sums("a further day", bureau, 109, 10, 16, 4);
        bureau.refundPass(1);
        sums("a refund of 29", bureau, 80, 39, 16, 4);
        bureau.undo();
        sums("which is undone", bureau, 109, 10, 16, 4);
    }

    private static void share(String when, double got, double due) {
        Check.about(61, "divided by the number of used days of all passes, both converted to double; 0.0 without visits");
        Check.same(when, got, due);
    }

    private static void checkVisitsPerDay() {
        share("no passes", Probe.make(Recipes::empty).visitsPerDay(), 0.0);
        GardenBureau bureau = Feed.bureau("garden 9;bed 0 20 0 99;sell 1 0 14 adult;sell 1 0 14 adult;pass 32;");
        bureau.setPause(0);
        share("no visits", bureau.visitsPerDay(), 0.0);
        bureau.visit(0, 0);
        share("one visit", bureau.visitsPerDay(), 1.0);
        bureau.visit(0, 0);
        share("two visits on a day", bureau.visitsPerDay(), 2.0);
        bureau.visit(1, 0);
        share("3 visits, 2 used days of two passes", bureau.visitsPerDay(), 3.0 / 2.0);
        bureau.pass(96);
        share("a day without a visit", bureau.visitsPerDay(), 3.0 / 2.0);
        bureau.visit(1, 0);
        share("4 visits, 3 used days", bureau.visitsPerDay(), 4.0 / 3.0);
        bureau.refundPass(1);
        share("a returned pass counts", bureau.visitsPerDay(), 4.0 / 3.0);
        for (int visit = 0; visit < 19; visit++) {
            bureau.visit(0, 0);
        }
        share("23 visits, 4 used days", bureau.visitsPerDay(), 5.75);
        share("a full bed", bureau.visit(0, 0), GardenBureau.BED_FULL);
        share("23 visits, 4 used days", bureau.visitsPerDay(), 5.75);
    }

    private static void blocked(String when, float got, float due) {
        Check.about(62, "divided by the number of cards, both converted to float; 0.0f without cards");
        Check.same(when, got, due);
    }

    private static void checkBlockedShare() {
        blocked("no cards", Probe.make(Recipes::empty).blockedShare(), 0.0f);
        GardenBureau bureau = Feed.bureau("garden 9;sell 1 0 1 adult;");
        blocked("0 of 1", bureau.blockedShare(), 0.0f);
        bureau.reportLost(0);
        blocked("1 of 1", bureau.blockedShare(), 1.0f);
        bureau.replaceCard(0);
        blocked("1 of 2", bureau.blockedShare(), 0.5f);
        bureau.sell(1, 0, 1, ADULT);
        blocked("1 of 3", bureau.blockedShare(), 1.0f / 3.0f);
        bureau.refundPass(0);
        blocked("2 of 3", bureau.blockedShare(), 2.0f / 3.0f);
        bureau.refundPass(1);
        blocked("3 of 3", bureau.blockedShare(), 1.0f);
        GardenBureau full = Probe.make(Recipes::fiftyCards);
        blocked("47 of 50", full.blockedShare(), 47.0f / 50.0f);
        full.reportLost(0);
        blocked("48 of 50", full.blockedShare(), 48.0f / 50.0f);
    }

    private static void none(String when, Probe.Acts acts) {
        Check.about(63, "it is always 0");
        Check.same(when, Probe.make(acts).violations(), 0);
    }

    private static void checkViolations() {
        none("a new object", Recipes::nothing);
        none("without beds, passes and cards", Recipes::empty);
        none("8 beds", Recipes::eightBeds);
        none("30 passes", Recipes::thirtyPasses);
        none("50 cards", Recipes::fiftyCards);
        none("all days of a pass are used", bureau -> {
            Recipes.visited(bureau);
            for (int day = 1; day < 14; day++) {
                bureau.pass(96);
                bureau.visit(0, 0);
            }
        });
        none("the only day of a pass is used", bureau -> bureau.refundPass(0));
        none("a full bed without blooms", bureau -> {
            Feed.run(bureau, "garden 9;bed 0 1 0 99;sell 1 0 1 adult;pass 32;visit 0 0;pluck 0 9;pluck 0 9;pluck 0 2;");
            bureau.visit(0, 0);
        });
        none("a bed with 50 blooms", bureau -> Recipes.goTo(bureau, 9599));
        none("a returned pass that owes more than its refund", bureau -> {
            Recipes.visited(bureau);
            bureau.setRate(20);
            bureau.pluck(0, 9);
            bureau.refundPass(0);
            bureau.payFines(0, 1);
        });
        none("a lost card of a returned pass", bureau -> {
            bureau.reportLost(1);
            bureau.refundPass(1);
        });
        none("a restored snapshot", bureau -> {
            bureau.saveSnapshot();
            Feed.run(bureau, "garden 9;");
            bureau.restoreSnapshot();
        });
    }
}
