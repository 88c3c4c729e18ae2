import java.util.NoSuchElementException;

/** The gate pass bureau of a walled garden; ../shared/DOC.md tells what each call promises. */
public final class GardenBureau {
    public static final int NONE = -1;
    public static final int NO_ROOM = -2;
    public static final int ADULT = 0, CHILD = 1;
    public static final int ALLOWED = 0, GARDEN_CLOSED = 1, CARD_BLOCKED = 2, NOT_TODAY = 3, WRONG_SCENT = 4, FINES_OPEN = 5, TOO_SOON = 6, BED_FULL = 7;
    public static final int NODS = 0, POINTS = 1, SHAKES = 2;

    private static final int TICKS_OF_DAY = 96;
    private static final int LAST_TICK_OF_DAY = TICKS_OF_DAY - 1;
    private static final int LAST_DAY = 99;
    private static final int LAST_TIME = 9599;
    private static final int FIRST_OPEN_TICK = 32;
    private static final int LAST_OPEN_TICK = 67;
    private static final int MOST_TICKS_TO_PASS = 500;

    private static final int MOST_SCENTS = 5;
    private static final int MOST_PRICE = 99;
    private static final int MOST_RATE = 20;
    private static final int MOST_PAUSE = 8;

    private static final int MOST_BEDS = 8;
    private static final int MOST_PLACES = 20;
    private static final int MOST_BLOOMS = 50;
    private static final int FIRST_BLOOMS = 20;
    private static final int BLOOMS_OF_A_DAY = 3;
    private static final int MOST_PLUCKED = 9;

    private static final int MOST_PASSES = 30;
    private static final int MOST_CARDS = 50;
    private static final int MOST_DAYS = 14;
    private static final int MOST_EXTENSION = 13;
    private static final int CARD_FEE = 5;
    private static final int MOST_OWED_FOR_A_VISIT = 30;
    private static final int MOST_PAYMENT = 9999;

    private static final int MOST_INPUT = 500;
    private static final int BYTES_OF_APPEND = 20;
    private static final int MOST_UNDO = 8;

    private static final int NO_ERROR = 0;
    private static final int NOT_IN_GRAMMAR = 1;
    private static final int OUT_OF_RANGE = 2;
    private static final int TOO_MANY_PRICES = 3;
    private static final int NOT_EXECUTABLE = 4;

    private static final String FOUNDING_SCRIPT = "garden 30 20 15; bed 0 2 0 9; bed 1 1 5 9; bed 2 3 0 0; sell 1 0 1 adult; sell 3 0 6 adult; sell 7 1 3 child; pass 40; visit 0 0; visit 1 1; pluck 0 2; pass 2; visit 1 0; pluck 1 3; lost 0;";

    private final Garden garden = new Garden();
    private final Garden snapshot = new Garden();
    private final History history = new History();
    private final Script script = new Script();
    private final Input input = script.input;
    private final Report report = new Report();
    private boolean hasSnapshot;

    public GardenBureau() {
        input.fill(FOUNDING_SCRIPT);
        script.execute();
        input.length = 0;
        garden.copyFrom(script.garden);
    }

    // ---- input

    public int append(int a, int b, int c, int d, int e) {
        if (input.length + BYTES_OF_APPEND > MOST_INPUT) {
            return NO_ROOM;
        }
        input.addWord(a);
        input.addWord(b);
        input.addWord(c);
        input.addWord(d);
        input.addWord(e);
        return input.length;
    }

    public int truncateInput(int length) throws IllegalArgumentException {
        requireRange(length, 0, input.length);
        input.length = length;
        return length;
    }

    // ---- changes

    public int runScript() {
        script.execute();
        input.length = 0;
        if (script.errorKind != NO_ERROR) {
            return NONE;
        }
        history.remember(garden);
        garden.copyFrom(script.garden);
        return garden.passes.count;
    }

    public int setPrice(int scent, int price) throws IndexOutOfBoundsException, IllegalArgumentException {
        requireScent(scent);
        requireRange(price, 1, MOST_PRICE);
        history.remember(garden);
        int previous = garden.tariff.price[scent];
        garden.tariff.price[scent] = price;
        return previous;
    }

    public int setRate(int rate) throws IllegalArgumentException {
        requireRange(rate, 1, MOST_RATE);
        history.remember(garden);
        int previous = garden.tariff.rate;
        garden.tariff.rate = rate;
        return previous;
    }

    public int layBed(int scent, int places, int firstDay, int lastDay) throws IndexOutOfBoundsException, IllegalArgumentException, IllegalStateException {
        requireScent(scent);
        requireRange(places, 1, MOST_PLACES);
        requireRange(firstDay, 0, LAST_DAY);
        requireRange(lastDay, firstDay, LAST_DAY);
        requireState(garden.beds.hasRoom());
        history.remember(garden);
        return garden.beds.add(scent, places, firstDay, lastDay);
    }

    public int setPeacocks(int first, int last) throws IllegalArgumentException {
        requireRange(first, 0, LAST_TICK_OF_DAY);
        requireRange(last, first, LAST_TICK_OF_DAY);
        history.remember(garden);
        garden.clock.letPeacocksWalk(first, last);
        return garden.clock.openTicksOfDay();
    }

    public int setPause(int ticks) throws IllegalArgumentException {
        requireRange(ticks, 0, MOST_PAUSE);
        history.remember(garden);
        int previous = garden.pause;
        garden.pause = ticks;
        return previous;
    }

    public int sell(int scents, int day, int days, int kind) throws IllegalArgumentException, IllegalStateException {
        requireSetOfScents(scents);
        requireRange(day, garden.clock.today(), LAST_DAY);
        requireRange(days, 1, MOST_DAYS);
        requireRange(kind, ADULT, CHILD);
        requireState(garden.canSellPass());
        history.remember(garden);
        return garden.sellPass(scents, day, days, kind);
    }

    public int extend(int pass, int days) throws IndexOutOfBoundsException, IllegalArgumentException, IllegalStateException {
        requirePass(pass);
        requireRange(days, 1, MOST_EXTENSION);
        requireState(garden.canChangePass(pass));
        requireState(garden.passes.days[pass] + days <= MOST_DAYS);
        history.remember(garden);
        garden.passes.days[pass] += days;
        return garden.payNewPrice(pass);
    }

    public int addScent(int pass, int scent) throws IndexOutOfBoundsException, IllegalStateException {
        requirePass(pass);
        requireScent(scent);
        requireState(garden.canChangePass(pass));
        requireState(!garden.passes.hasScent(pass, scent));
        history.remember(garden);
        garden.passes.scents[pass] |= 1 << scent;
        return garden.payNewPrice(pass);
    }

    public int reportLost(int pass) throws IndexOutOfBoundsException, IllegalStateException {
        requirePass(pass);
        requireState(garden.passes.hasCard(pass));
        history.remember(garden);
        return garden.blockCardOf(pass);
    }

    public int replaceCard(int pass) throws IndexOutOfBoundsException, IllegalStateException {
        requirePass(pass);
        requireState(garden.canReplaceCard(pass));
        history.remember(garden);
        return garden.issueNewCard(pass);
    }

    public int refundPass(int pass) throws IndexOutOfBoundsException, IllegalStateException {
        requirePass(pass);
        requireState(!garden.passes.returned[pass]);
        history.remember(garden);
        return garden.takeBackPass(pass);
    }

    public int visit(int card, int bed) throws IndexOutOfBoundsException {
        requireCard(card);
        requireBed(bed);
        history.remember(garden);
        return garden.showCard(card, bed);
    }

    public int pluck(int card, int blooms) throws IndexOutOfBoundsException, IllegalArgumentException, IllegalStateException {
        requireCard(card);
        requireRange(blooms, 1, MOST_PLUCKED);
        requireState(garden.canPluck(card, blooms));
        history.remember(garden);
        return garden.pluckBlooms(card, blooms);
    }

    public int payFines(int pass, int amount) throws IndexOutOfBoundsException, IllegalArgumentException, IllegalStateException {
        requirePass(pass);
        requireRange(amount, 1, MOST_PAYMENT);
        requireState(garden.passes.owed[pass] >= amount);
        history.remember(garden);
        garden.payFinesOf(pass, amount);
        return garden.passes.owed[pass];
    }

    public int pass(int ticks) throws IllegalArgumentException, IllegalStateException {
        requireRange(ticks, 1, MOST_TICKS_TO_PASS);
        requireState(garden.clock.canGoOn(ticks));
        history.remember(garden);
        garden.letTicksPass(ticks);
        return garden.clock.time;
    }

    // ---- undo and snapshot

    public int undo() {
        if (history.count == 0) {
            return NONE;
        }
        history.takeBack(garden);
        return history.count;
    }

    public int undoCount() {
        return history.count;
    }

    public int saveSnapshot() {
        snapshot.copyFrom(garden);
        hasSnapshot = true;
        return garden.clock.time;
    }

    public int restoreSnapshot() throws NoSuchElementException {
        if (!hasSnapshot) {
            throw new NoSuchElementException("no snapshot was saved");
        }
        garden.copyFrom(snapshot);
        history.forget();
        return garden.clock.time;
    }

    // ---- script errors

    public int scriptErrorKind() {
        return script.errorKind;
    }

    public int scriptErrorOffset() {
        return script.errorOffset;
    }

    // ---- time and beds

    public int time() {
        return garden.clock.time;
    }

    public int day() {
        return garden.clock.today();
    }

    public boolean isOpen() {
        return garden.clock.isOpenIn(garden.clock.tickOfDay());
    }

    public int ticksUntilOpen() {
        return garden.clock.waitForOpening();
    }

    public int bedCount() {
        return garden.beds.count;
    }

    public int scentOf(int bed) throws IndexOutOfBoundsException {
        requireBed(bed);
        return garden.beds.scent[bed];
    }

    public boolean isInSeason(int bed) throws IndexOutOfBoundsException {
        requireBed(bed);
        return garden.beds.hasSeasonOn(bed, garden.clock.today());
    }

    public int blooms(int bed) throws IndexOutOfBoundsException {
        requireBed(bed);
        return garden.beds.blooms[bed];
    }

    public int placesLeft(int bed) throws IndexOutOfBoundsException {
        requireBed(bed);
        return garden.beds.freePlaces(bed);
    }

    public int visitsTo(int bed) throws IndexOutOfBoundsException {
        requireBed(bed);
        return garden.beds.visits[bed];
    }

    // ---- passes

    public int passCount() {
        return garden.passes.count;
    }

    public int scentsOf(int pass) throws IndexOutOfBoundsException {
        requirePass(pass);
        return garden.passes.scents[pass];
    }

    public int firstDay(int pass) throws IndexOutOfBoundsException {
        requirePass(pass);
        return garden.passes.firstDay[pass];
    }

    public int lastDay(int pass) throws IndexOutOfBoundsException {
        requirePass(pass);
        return garden.passes.finalDay(pass);
    }

    public int priceOf(int pass) throws IndexOutOfBoundsException {
        requirePass(pass);
        return garden.passes.price[pass];
    }

    public int cardOf(int pass) throws IndexOutOfBoundsException {
        requirePass(pass);
        return garden.passes.card[pass];
    }

    public boolean isReturned(int pass) throws IndexOutOfBoundsException {
        requirePass(pass);
        return garden.passes.returned[pass];
    }

    public int usedDays(int pass) throws IndexOutOfBoundsException {
        requirePass(pass);
        return garden.passes.countUsedDays(pass);
    }

    public int visitsWith(int pass) throws IndexOutOfBoundsException {
        requirePass(pass);
        return garden.passes.visits[pass];
    }

    public int refundOf(int pass) throws IndexOutOfBoundsException {
        requirePass(pass);
        return garden.refundNow(pass);
    }

    public int owed(int pass) throws IndexOutOfBoundsException {
        requirePass(pass);
        return garden.passes.owed[pass];
    }

    public int ticksUntilReady(int pass) throws IndexOutOfBoundsException {
        requirePass(pass);
        return garden.waitForNextVisit(pass);
    }

    // ---- cards

    public int cardCount() {
        return garden.cards.count;
    }

    public int passOf(int card) throws IndexOutOfBoundsException {
        requireCard(card);
        return garden.cards.pass[card];
    }

    public boolean isBlocked(int card) throws IndexOutOfBoundsException {
        requireCard(card);
        return garden.cards.blocked[card];
    }

    // ---- questions

    public int whyRefused(int card, int bed) throws IndexOutOfBoundsException {
        requireCard(card);
        requireBed(bed);
        return garden.reasonOfRefusal(card, bed);
    }

    public int sign(int card, int bed) throws IndexOutOfBoundsException {
        requireCard(card);
        requireBed(bed);
        int reason = garden.reasonOfRefusal(card, bed);
        if (reason == ALLOWED) {
            return NODS;
        }
        return reason == FINES_OPEN ? POINTS : SHAKES;
    }

    public int bedsFor(int card) throws IndexOutOfBoundsException {
        requireCard(card);
        return garden.allowedBeds(card);
    }

    public int quote(int scents, int days, int kind) throws IllegalArgumentException {
        requireSetOfScents(scents);
        requireRange(days, 1, MOST_DAYS);
        requireRange(kind, ADULT, CHILD);
        return garden.tariff.priceOfPass(scents, days, kind);
    }

    public int fineFor(int bed, int blooms) throws IndexOutOfBoundsException, IllegalArgumentException {
        requireBed(bed);
        requireRange(blooms, 1, MOST_PLUCKED);
        return garden.fineToday(bed, blooms);
    }

    // ---- accounts and checks

    public int takings() {
        return garden.books.paid - garden.books.refunded;
    }

    public int refunds() {
        return garden.books.refunded;
    }

    public int finesPaid() {
        return garden.books.finesPaid;
    }

    public int plucked() {
        return garden.books.plucked;
    }

    public int alarms() {
        return garden.books.alarms;
    }

    public double visitsPerDay() {
        int days = garden.passes.sumOfUsedDays();
        if (days == 0) {
            return 0.0;
        }
        return (double) garden.passes.sumOfVisits() / (double) days;
    }

    public float blockedShare() {
        if (garden.cards.count == 0) {
            return 0.0f;
        }
        return (float) garden.cards.countBlocked() / (float) garden.cards.count;
    }

    public int violations() {
        return garden.countWrongPasses() + garden.beds.countWrong() + garden.countWrongSums();
    }

    // ---- report

    public int writePass(int pass) throws IndexOutOfBoundsException {
        requirePass(pass);
        report.writeDays(garden.passes, pass, garden.clock.today());
        return report.length;
    }

    public int reportByte(int index) {
        if (index < 0 || index >= report.length) {
            return NONE;
        }
        return report.bytes[index];
    }

    // ---- what the calls require

    private void requireScent(int scent) {
        if (!garden.tariff.has(scent)) {
            throw new IndexOutOfBoundsException("no such scent");
        }
    }

    private void requireBed(int bed) {
        if (!garden.beds.has(bed)) {
            throw new IndexOutOfBoundsException("no such bed");
        }
    }

    private void requirePass(int pass) {
        if (!garden.passes.has(pass)) {
            throw new IndexOutOfBoundsException("no such pass");
        }
    }

    private void requireCard(int card) {
        if (!garden.cards.has(card)) {
            throw new IndexOutOfBoundsException("no such card");
        }
    }

    private void requireSetOfScents(int scents) {
        requireRange(scents, 1, garden.tariff.setOfAllScents());
    }

    private static void requireRange(int value, int least, int most) {
        if (value < least || value > most) {
            throw new IllegalArgumentException("out of range");
        }
    }

    private static void requireState(boolean holds) {
        if (!holds) {
            throw new IllegalStateException("not possible now");
        }
    }

    /** The time, and the ticks of the day in which the garden is open. */
    private static final class Clock {
        int time;
        int firstPeacockTick;
        int lastPeacockTick;

        void reset() {
            time = 0;
            letPeacocksWalk(50, 53);
        }

        void copyFrom(Clock other) {
            time = other.time;
            letPeacocksWalk(other.firstPeacockTick, other.lastPeacockTick);
        }

        void letPeacocksWalk(int first, int last) {
            firstPeacockTick = first;
            lastPeacockTick = last;
        }

        int today() {
            return time / TICKS_OF_DAY;
        }

        boolean canGoOn(int ticks) {
            return time + ticks <= LAST_TIME;
        }

        int tickOfDay() {
            return time % TICKS_OF_DAY;
        }

        boolean isOpenIn(int tickOfDay) {
            boolean peacocksWalk = tickOfDay >= firstPeacockTick && tickOfDay <= lastPeacockTick;
            return tickOfDay >= FIRST_OPEN_TICK && tickOfDay <= LAST_OPEN_TICK && !peacocksWalk;
        }

        int openTicksOfDay() {
            int count = 0;
            for (int tick = FIRST_OPEN_TICK; tick <= LAST_OPEN_TICK; tick++) {
                if (isOpenIn(tick)) {
                    count++;
                }
            }
            return count;
        }

        // The next opening may lie behind the last time: the promise asks for the ticks all the same.
        int waitForOpening() {
            for (int wait = 0; wait < TICKS_OF_DAY; wait++) {
                if (isOpenIn((time + wait) % TICKS_OF_DAY)) {
                    return wait;
                }
            }
            return NONE;
        }
    }

    /** The prices of the scents, and the rate of the fines. */
    private static final class Tariff {
        int scents;
        int rate;
        final int[] price = new int[MOST_SCENTS];

        void reset() {
            scents = 0;
            rate = 2;
        }

        void copyFrom(Tariff other) {
            scents = other.scents;
            rate = other.rate;
            System.arraycopy(other.price, 0, price, 0, scents);
        }

        boolean has(int scent) {
            return scent >= 0 && scent < scents;
        }

        boolean hasRoom() {
            return scents < MOST_SCENTS;
        }

        void add(int priceOfDay) {
            price[scents] = priceOfDay;
            scents++;
        }

        int setOfAllScents() {
            return (1 << scents) - 1;
        }

        int priceOfPass(int set, int days, int kind) {
            int sum = 0;
            for (int scent = 0; scent < scents; scent++) {
                if ((set >> scent & 1) == 1) {
                    sum += price[scent];
                }
            }
            int percentOfKind = kind == CHILD ? 60 : 100;
            return sum * days * percentOfKind * percentForDays(days) / 10000;
        }

        static int percentForDays(int days) {
            if (days >= 6) {
                return 80;
            }
            return days >= 3 ? 90 : 100;
        }
    }

    /** The beds; the row of each field bears the number of the bed. */
    private static final class Beds {
        int count;
        final int[] scent = new int[MOST_BEDS];
        final int[] places = new int[MOST_BEDS];
        final int[] firstDay = new int[MOST_BEDS];
        final int[] lastDay = new int[MOST_BEDS];
        final int[] blooms = new int[MOST_BEDS];
        final int[] visits = new int[MOST_BEDS];
        final int[] visitsInTick = new int[MOST_BEDS];

        void copyFrom(Beds other) {
            count = other.count;
            System.arraycopy(other.scent, 0, scent, 0, count);
            System.arraycopy(other.places, 0, places, 0, count);
            System.arraycopy(other.firstDay, 0, firstDay, 0, count);
            System.arraycopy(other.lastDay, 0, lastDay, 0, count);
            System.arraycopy(other.blooms, 0, blooms, 0, count);
            System.arraycopy(other.visits, 0, visits, 0, count);
            System.arraycopy(other.visitsInTick, 0, visitsInTick, 0, count);
        }

        boolean has(int bed) {
            return bed >= 0 && bed < count;
        }

        boolean hasRoom() {
            return count < MOST_BEDS;
        }

        int add(int scentOfBed, int placesOfBed, int seasonFirst, int seasonLast) {
            int bed = count;
            scent[bed] = scentOfBed;
            places[bed] = placesOfBed;
            firstDay[bed] = seasonFirst;
            lastDay[bed] = seasonLast;
            blooms[bed] = FIRST_BLOOMS;
            visits[bed] = 0;
            visitsInTick[bed] = 0;
            count++;
            return bed;
        }

        boolean hasSeasonOn(int bed, int day) {
            return day >= firstDay[bed] && day <= lastDay[bed];
        }

        int freePlaces(int bed) {
            return places[bed] - visitsInTick[bed];
        }

        void countVisit(int bed) {
            visits[bed]++;
            visitsInTick[bed]++;
        }

        void beginTick() {
            for (int bed = 0; bed < count; bed++) {
                visitsInTick[bed] = 0;
            }
        }

        void beginDay(int day) {
            for (int bed = 0; bed < count; bed++) {
                if (hasSeasonOn(bed, day)) {
                    blooms[bed] = Math.min(MOST_BLOOMS, blooms[bed] + BLOOMS_OF_A_DAY);
                }
            }
        }

        int sumOfVisits() {
            int sum = 0;
            for (int bed = 0; bed < count; bed++) {
                sum += visits[bed];
            }
            return sum;
        }

        int countWrong() {
            int wrong = 0;
            for (int bed = 0; bed < count; bed++) {
                if (freePlaces(bed) < 0 || blooms[bed] < 0 || blooms[bed] > MOST_BLOOMS) {
                    wrong++;
                }
            }
            return wrong;
        }
    }

    /** The passes; the row of each field bears the number of the pass. */
    private static final class Passes {
        int count;
        final int[] scents = new int[MOST_PASSES];
        final int[] firstDay = new int[MOST_PASSES];
        final int[] days = new int[MOST_PASSES];
        final int[] kind = new int[MOST_PASSES];
        final int[] price = new int[MOST_PASSES];
        final int[] card = new int[MOST_PASSES];
        final boolean[] returned = new boolean[MOST_PASSES];
        // A set of days: bit 0 stands for the first day of the pass.
        final int[] usedDays = new int[MOST_PASSES];
        final int[] visits = new int[MOST_PASSES];
        final int[] latestTime = new int[MOST_PASSES];
        final int[] latestBed = new int[MOST_PASSES];
        final int[] owed = new int[MOST_PASSES];

        void copyFrom(Passes other) {
            count = other.count;
            System.arraycopy(other.scents, 0, scents, 0, count);
            System.arraycopy(other.firstDay, 0, firstDay, 0, count);
            System.arraycopy(other.days, 0, days, 0, count);
            System.arraycopy(other.kind, 0, kind, 0, count);
            System.arraycopy(other.price, 0, price, 0, count);
            System.arraycopy(other.card, 0, card, 0, count);
            System.arraycopy(other.usedDays, 0, usedDays, 0, count);
            System.arraycopy(other.visits, 0, visits, 0, count);
            System.arraycopy(other.latestTime, 0, latestTime, 0, count);
            System.arraycopy(other.latestBed, 0, latestBed, 0, count);
            System.arraycopy(other.owed, 0, owed, 0, count);
            for (int pass = 0; pass < count; pass++) {
                returned[pass] = other.returned[pass];
            }
        }

        boolean has(int pass) {
            return pass >= 0 && pass < count;
        }

        boolean hasRoom() {
            return count < MOST_PASSES;
        }

        int add(int set, int day, int daysOfPass, int kindOfPass, int priceOfPass) {
            int pass = count;
            scents[pass] = set;
            firstDay[pass] = day;
            days[pass] = daysOfPass;
            kind[pass] = kindOfPass;
            price[pass] = priceOfPass;
            card[pass] = NONE;
            returned[pass] = false;
            usedDays[pass] = 0;
            visits[pass] = 0;
            latestTime[pass] = NONE;
            latestBed[pass] = NONE;
            owed[pass] = 0;
            count++;
            return pass;
        }

        boolean hasCard(int pass) {
            return card[pass] != NONE;
        }

        boolean hasScent(int pass, int scent) {
            return (scents[pass] >> scent & 1) == 1;
        }

        int finalDay(int pass) {
            return firstDay[pass] + days[pass] - 1;
        }

        boolean isValidOn(int pass, int day) {
            return day >= firstDay[pass] && day < firstDay[pass] + days[pass];
        }

        boolean isUsed(int pass, int indexOfDay) {
            return (usedDays[pass] >> indexOfDay & 1) == 1;
        }

        int countUsedDays(int pass) {
            return Integer.bitCount(usedDays[pass]);
        }

        int countDaysLeft(int pass, int today) {
            int left = 0;
            for (int index = Math.max(0, today - firstDay[pass]); index < days[pass]; index++) {
                if ((usedDays[pass] >> index & 1) == 0) {
                    left++;
                }
            }
            return left;
        }

        void countVisit(int pass, int bed, int time, int today) {
            usedDays[pass] |= 1 << (today - firstDay[pass]);
            visits[pass]++;
            latestTime[pass] = time;
            latestBed[pass] = bed;
        }

        int sumOfUsedDays() {
            int sum = 0;
            for (int pass = 0; pass < count; pass++) {
                sum += countUsedDays(pass);
            }
            return sum;
        }

        int sumOfVisits() {
            int sum = 0;
            for (int pass = 0; pass < count; pass++) {
                sum += visits[pass];
            }
            return sum;
        }

        int sumOfOwed() {
            int sum = 0;
            for (int pass = 0; pass < count; pass++) {
                sum += owed[pass];
            }
            return sum;
        }
    }

    /** The cards; the row of each field bears the number of the card. */
    private static final class Cards {
        int count;
        final int[] pass = new int[MOST_CARDS];
        final boolean[] blocked = new boolean[MOST_CARDS];

        void copyFrom(Cards other) {
            count = other.count;
            System.arraycopy(other.pass, 0, pass, 0, count);
            for (int card = 0; card < count; card++) {
                blocked[card] = other.blocked[card];
            }
        }

        boolean has(int card) {
            return card >= 0 && card < count;
        }

        boolean hasRoom() {
            return count < MOST_CARDS;
        }

        int add(int passOfCard) {
            int card = count;
            pass[card] = passOfCard;
            blocked[card] = false;
            count++;
            return card;
        }

        boolean isOpenCardOf(int card, int passOfCard) {
            return has(card) && !blocked[card] && pass[card] == passOfCard;
        }

        int countBlocked() {
            int sum = 0;
            for (int card = 0; card < count; card++) {
                if (blocked[card]) {
                    sum++;
                }
            }
            return sum;
        }
    }

    /** The sums of the bureau. */
    private static final class Books {
        int paid;
        int refunded;
        int fines;
        int finesPaid;
        int plucked;
        int alarms;

        void reset() {
            paid = 0;
            refunded = 0;
            fines = 0;
            finesPaid = 0;
            plucked = 0;
            alarms = 0;
        }

        void copyFrom(Books other) {
            paid = other.paid;
            refunded = other.refunded;
            fines = other.fines;
            finesPaid = other.finesPaid;
            plucked = other.plucked;
            alarms = other.alarms;
        }
    }

    /** All that undo restores, with the rules of the bureau; its callers look at numbers and ranges first. */
    private static final class Garden {
        final Clock clock = new Clock();
        final Tariff tariff = new Tariff();
        final Beds beds = new Beds();
        final Passes passes = new Passes();
        final Cards cards = new Cards();
        final Books books = new Books();
        int pause;

        void reset() {
            clock.reset();
            tariff.reset();
            beds.count = 0;
            passes.count = 0;
            cards.count = 0;
            books.reset();
            pause = 1;
        }

        void copyFrom(Garden other) {
            clock.copyFrom(other.clock);
            tariff.copyFrom(other.tariff);
            beds.copyFrom(other.beds);
            passes.copyFrom(other.passes);
            cards.copyFrom(other.cards);
            books.copyFrom(other.books);
            pause = other.pause;
        }

        void letTicksPass(int ticks) {
            int before = clock.today();
            clock.time += ticks;
            beds.beginTick();
            for (int day = before + 1; day <= clock.today(); day++) {
                beds.beginDay(day);
            }
        }

        boolean canSellPass() {
            return passes.hasRoom() && cards.hasRoom();
        }

        int sellPass(int scents, int day, int days, int kind) {
            int price = tariff.priceOfPass(scents, days, kind);
            int pass = passes.add(scents, day, days, kind, price);
            passes.card[pass] = cards.add(pass);
            books.paid += price;
            return pass;
        }

        boolean canChangePass(int pass) {
            return !passes.returned[pass] && passes.finalDay(pass) >= clock.today();
        }

        int payNewPrice(int pass) {
            int price = tariff.priceOfPass(passes.scents[pass], passes.days[pass], passes.kind[pass]);
            int difference = Math.max(0, price - passes.price[pass]);
            passes.price[pass] += difference;
            books.paid += difference;
            return difference;
        }

        int blockCardOf(int pass) {
            int card = passes.card[pass];
            if (cards.has(card)) {
                cards.blocked[card] = true;
            }
            passes.card[pass] = NONE;
            return card;
        }

        boolean canReplaceCard(int pass) {
            return !passes.hasCard(pass) && !passes.returned[pass] && cards.hasRoom();
        }

        int issueNewCard(int pass) {
            passes.card[pass] = cards.add(pass);
            books.paid += CARD_FEE;
            return passes.card[pass];
        }

        int refundNow(int pass) {
            int days = passes.days[pass];
            if (passes.returned[pass] || days == 0) {
                return 0;
            }
            return passes.price[pass] * passes.countDaysLeft(pass, clock.today()) / days / 2;
        }

        int takeBackPass(int pass) {
            int refund = refundNow(pass);
            int finesPaidByRefund = Math.min(refund, passes.owed[pass]);
            books.refunded += refund;
            payFinesOf(pass, finesPaidByRefund);
            blockCardOf(pass);
            passes.returned[pass] = true;
            return refund - finesPaidByRefund;
        }

        void payFinesOf(int pass, int amount) {
            passes.owed[pass] -= amount;
            books.finesPaid += amount;
            books.paid += amount;
        }

        int waitForNextVisit(int pass) {
            int ready = passes.latestTime[pass] + pause;
            if (passes.latestTime[pass] == NONE || ready < clock.time) {
                return 0;
            }
            return ready - clock.time;
        }

        int reasonOfRefusal(int card, int bed) {
            int pass = cards.pass[card];
            if (!clock.isOpenIn(clock.tickOfDay())) {
                return GARDEN_CLOSED;
            }
            if (cards.blocked[card]) {
                return CARD_BLOCKED;
            }
            if (!passes.isValidOn(pass, clock.today())) {
                return NOT_TODAY;
            }
            if (!passes.hasScent(pass, beds.scent[bed])) {
                return WRONG_SCENT;
            }
            if (passes.owed[pass] > MOST_OWED_FOR_A_VISIT) {
                return FINES_OPEN;
            }
            if (waitForNextVisit(pass) > 0) {
                return TOO_SOON;
            }
            return beds.freePlaces(bed) > 0 ? ALLOWED : BED_FULL;
        }

        int allowedBeds(int card) {
            int set = 0;
            for (int bed = 0; bed < beds.count; bed++) {
                if (reasonOfRefusal(card, bed) == ALLOWED) {
                    set |= 1 << bed;
                }
            }
            return set;
        }

        int showCard(int card, int bed) {
            int reason = reasonOfRefusal(card, bed);
            if (reason == CARD_BLOCKED) {
                books.alarms++;
            }
            if (reason == ALLOWED) {
                beds.countVisit(bed);
                passes.countVisit(cards.pass[card], bed, clock.time, clock.today());
            }
            return reason;
        }

        boolean canPluck(int card, int blooms) {
            int pass = cards.pass[card];
            int bed = passes.latestBed[pass];
            if (cards.blocked[card] || passes.latestTime[pass] != clock.time || !beds.has(bed)) {
                return false;
            }
            return beds.blooms[bed] >= blooms;
        }

        int pluckBlooms(int card, int blooms) {
            int pass = cards.pass[card];
            int bed = passes.latestBed[pass];
            int fine = fineToday(bed, blooms);
            beds.blooms[bed] -= blooms;
            passes.owed[pass] += fine;
            books.fines += fine;
            books.plucked += blooms;
            return fine;
        }

        int fineToday(int bed, int blooms) {
            int rate = beds.hasSeasonOn(bed, clock.today()) ? 2 * tariff.rate : tariff.rate;
            return rate * blooms;
        }

        int countWrongPasses() {
            int wrong = 0;
            for (int pass = 0; pass < passes.count; pass++) {
                if (passes.countUsedDays(pass) > passes.days[pass]) {
                    wrong++;
                }
                if (passes.hasCard(pass) && !cards.isOpenCardOf(passes.card[pass], pass)) {
                    wrong++;
                }
                if (passes.hasCard(pass) && passes.returned[pass]) {
                    wrong++;
                }
            }
            return wrong;
        }

        int countWrongSums() {
            int wrong = beds.sumOfVisits() == passes.sumOfVisits() ? 0 : 1;
            return books.fines == books.finesPaid + passes.sumOfOwed() ? wrong : wrong + 1;
        }
    }

    /** The latest changes, each kept as the garden before it. */
    private static final class History {
        final Garden[] before = new Garden[MOST_UNDO];
        int count;
        int next;

        History() {
            for (int slot = 0; slot < MOST_UNDO; slot++) {
                before[slot] = new Garden();
            }
        }

        void remember(Garden garden) {
            before[next].copyFrom(garden);
            next = (next + 1) % MOST_UNDO;
            count = Math.min(MOST_UNDO, count + 1);
        }

        void takeBack(Garden garden) {
            next = (next + MOST_UNDO - 1) % MOST_UNDO;
            garden.copyFrom(before[next]);
            count--;
        }

        void forget() {
            count = 0;
        }
    }

    /** The days of a pass, written down. */
    private static final class Report {
        final byte[] bytes = new byte[MOST_DAYS];
        int length;

        void writeDays(Passes passes, int pass, int today) {
            length = passes.days[pass];
            for (int index = 0; index < length; index++) {
                bytes[index] = (byte) letterOfDay(passes, pass, index, today);
            }
        }

        static char letterOfDay(Passes passes, int pass, int index, int today) {
            if (passes.isUsed(pass, index)) {
                return 'x';
            }
            return passes.firstDay[pass] + index < today ? '-' : '.';
        }
    }

    /** The input buffer, and the token of it that is read. */
    private static final class Input {
        static final int WORD = 0, NUMBER = 1, SEMICOLON = 2, END = 3, NO_TOKEN = 4;
        static final int MOST_DIGITS = 4;

        final byte[] bytes = new byte[MOST_INPUT];
        int length;
        int kind;
        int start;
        int end;

        void fill(String text) {
            length = Math.min(MOST_INPUT, text.length());
            for (int index = 0; index < length; index++) {
                bytes[index] = (byte) text.charAt(index);
            }
        }

        void addWord(int word) {
            for (int shift = 24; shift >= 0 && length < MOST_INPUT; shift -= 8) {
                bytes[length] = (byte) (word >>> shift);
                length++;
            }
        }

        void readFirst() {
            end = 0;
            readNext();
        }

        void readNext() {
            start = end;
            while (start < length && (bytes[start] == ' ' || bytes[start] == '\n')) {
                start++;
            }
            end = start;
            if (start == length) {
                kind = END;
                return;
            }
            kind = kindOf(bytes[start]);
            end++;
            while ((kind == WORD || kind == NUMBER) && end < length && kindOf(bytes[end]) == kind) {
                end++;
            }
            if (kind == NUMBER && end - start > MOST_DIGITS) {
                kind = NO_TOKEN;
            }
        }

        static int kindOf(byte sign) {
            if (sign >= 'a' && sign <= 'z') {
                return WORD;
            }
            if (sign >= '0' && sign <= '9') {
                return NUMBER;
            }
            return sign == ';' ? SEMICOLON : NO_TOKEN;
        }

        boolean isWord(String word) {
            if (kind != WORD || end - start != word.length()) {
                return false;
            }
            for (int index = 0; index < word.length(); index++) {
                if (bytes[start + index] != word.charAt(index)) {
                    return false;
                }
            }
            return true;
        }

        int valueOfNumber() {
            int value = 0;
            for (int index = start; index < end; index++) {
                value = value * 10 + bytes[index] - '0';
            }
            return value;
        }
    }

    /** Executes the input in a garden of its own; after an error it reads nothing more. */
    private static final class Script {
        final Garden garden = new Garden();
        final Input input = new Input();
        int errorKind = NO_ERROR;
        int errorOffset = NONE;

        void execute() {
            garden.reset();
            errorKind = NO_ERROR;
            errorOffset = NONE;
            input.readFirst();
            readGarden();
            for (int command = 0; command < MOST_INPUT && goesOn(); command++) {
                readCommand();
            }
        }

        boolean goesOn() {
            return errorKind == NO_ERROR && input.kind != Input.END;
        }

        void fail(int kind) {
            if (errorKind == NO_ERROR) {
                errorKind = kind;
                errorOffset = input.start;
            }
        }

        void readGarden() {
            if (!input.isWord("garden")) {
                fail(NOT_IN_GRAMMAR);
                return;
            }
            input.readNext();
            readPrice();
            for (int price = 1; price <= MOST_SCENTS && errorKind == NO_ERROR && input.kind == Input.NUMBER; price++) {
                readPrice();
            }
            if (isAtSemicolon()) {
                input.readNext();
            }
        }

        void readPrice() {
            int price = numberHere(1, MOST_PRICE);
            if (!garden.tariff.hasRoom()) {
                fail(TOO_MANY_PRICES);
            }
            if (errorKind == NO_ERROR) {
                garden.tariff.add(price);
                input.readNext();
            }
        }

        void readCommand() {
            if (input.isWord("bed")) {
                readBed();
            } else if (input.isWord("sell")) {
                readSell();
            } else if (input.isWord("visit")) {
                readVisit();
            } else if (input.isWord("pluck")) {
                readPluck();
            } else if (input.isWord("pay")) {
                readPay();
            } else if (input.isWord("lost")) {
                readLost();
            } else if (input.isWord("replace")) {
                readReplace();
            } else if (input.isWord("peacocks")) {
                readPeacocks();
            } else if (input.isWord("pass")) {
                readPass();
            } else if (input.isWord("refund")) {
                readRefund();
            } else {
                fail(NOT_IN_GRAMMAR);
            }
            if (errorKind == NO_ERROR) {
                input.readNext();
            }
        }

        void readBed() {
            int scent = nextNumber(0, garden.tariff.scents - 1);
            int places = nextNumber(1, MOST_PLACES);
            int firstDay = nextNumber(0, LAST_DAY);
            int lastDay = nextNumber(firstDay, LAST_DAY);
            if (isComplete() && executes(garden.beds.hasRoom())) {
                garden.beds.add(scent, places, firstDay, lastDay);
            }
        }

        void readSell() {
            int scents = nextNumber(1, garden.tariff.setOfAllScents());
            int day = nextNumber(garden.clock.today(), LAST_DAY);
            int days = nextNumber(1, MOST_DAYS);
            int kind = nextKind();
            if (isComplete() && executes(garden.canSellPass())) {
                garden.sellPass(scents, day, days, kind);
            }
        }

        void readVisit() {
            int card = nextNumber(0, garden.cards.count - 1);
            int bed = nextNumber(0, garden.beds.count - 1);
            if (isComplete()) {
                executes(garden.showCard(card, bed) == ALLOWED);
            }
        }

        void readPluck() {
            int card = nextNumber(0, garden.cards.count - 1);
            int blooms = nextNumber(1, MOST_PLUCKED);
            if (isComplete() && executes(garden.canPluck(card, blooms))) {
                garden.pluckBlooms(card, blooms);
            }
        }

        void readPay() {
            int pass = nextNumber(0, garden.passes.count - 1);
            int amount = nextNumber(1, MOST_PAYMENT);
            if (isComplete() && executes(garden.passes.owed[pass] >= amount)) {
                garden.payFinesOf(pass, amount);
            }
        }

        void readLost() {
            int pass = nextNumber(0, garden.passes.count - 1);
            if (isComplete() && executes(garden.passes.hasCard(pass))) {
                garden.blockCardOf(pass);
            }
        }

        void readReplace() {
            int pass = nextNumber(0, garden.passes.count - 1);
            if (isComplete() && executes(garden.canReplaceCard(pass))) {
                garden.issueNewCard(pass);
            }
        }

        void readPeacocks() {
            int first = nextNumber(0, LAST_TICK_OF_DAY);
            int last = nextNumber(first, LAST_TICK_OF_DAY);
            if (isComplete()) {
                garden.clock.letPeacocksWalk(first, last);
            }
        }

        void readPass() {
            int ticks = nextNumber(1, MOST_TICKS_TO_PASS);
            if (isComplete() && executes(garden.clock.canGoOn(ticks))) {
                garden.letTicksPass(ticks);
            }
        }

        void readRefund() {
            int pass = nextNumber(0, garden.passes.count - 1);
            if (isComplete() && executes(!garden.passes.returned[pass])) {
                garden.takeBackPass(pass);
            }
        }

        int nextKind() {
            if (errorKind == NO_ERROR) {
                input.readNext();
                if (!input.isWord("adult") && !input.isWord("child")) {
                    fail(NOT_IN_GRAMMAR);
                }
            }
            return input.isWord("child") ? CHILD : ADULT;
        }

        int nextNumber(int least, int most) {
            if (errorKind == NO_ERROR) {
                input.readNext();
            }
            return numberHere(least, most);
        }

        int numberHere(int least, int most) {
            if (input.kind != Input.NUMBER) {
                fail(NOT_IN_GRAMMAR);
                return least;
            }
            int value = input.valueOfNumber();
            if (value < least || value > most) {
                fail(OUT_OF_RANGE);
            }
            return value;
        }

        boolean isAtSemicolon() {
            if (input.kind != Input.SEMICOLON) {
                fail(NOT_IN_GRAMMAR);
            }
            return errorKind == NO_ERROR;
        }

        boolean isComplete() {
            if (errorKind == NO_ERROR) {
                input.readNext();
            }
            return isAtSemicolon();
        }

        boolean executes(boolean possible) {
            if (!possible) {
                fail(NOT_EXECUTABLE);
            }
            return possible;
        }
    }
}
