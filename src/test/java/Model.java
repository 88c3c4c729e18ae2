import java.util.ArrayDeque;
import java.util.ArrayList;
import java.util.Deque;
import java.util.HashSet;
import java.util.LinkedHashMap;
import java.util.List;
import java.util.Map;
import java.util.Set;
import java.util.TreeMap;
import java.util.regex.Matcher;
import java.util.regex.Pattern;

/**
 * The bureau once more, as plain as the document allows and without regard to cost: visits are kept one by one, and
 * all that can be derived from them is counted anew at each question. A call that throws answers THROWS_..
 */
final class Model {
    static final int THROWS_INDEX = -101, THROWS_ARGUMENT = -102, THROWS_STATE = -103, THROWS_ELEMENT = -104;

    record Visit(int pass, int bed, int time) {
    }

    /** A fault of a call, which stands for an exception or for the kind of a script's error. */
    static final class Fault extends Exception {
        private static final long serialVersionUID = 1L;
        final int kind;

        Fault(int kind) {
            this.kind = kind;
        }
    }

    static final class State {
        int time;
        int rate = 2;
        int pause = 1;
        int walkFirst = 50;
        int walkLast = 53;
        List<Integer> prices = new ArrayList<>();
        List<Map<String, Integer>> beds = new ArrayList<>();
        List<Map<String, Integer>> passes = new ArrayList<>();
        List<Integer> cards = new ArrayList<>();
        Set<Integer> blocked = new HashSet<>();
        List<Visit> visits = new ArrayList<>();
        Map<String, Integer> books = new TreeMap<>();

        State copy() {
            State copy = new State();
            copy.time = time;
            copy.rate = rate;
            copy.pause = pause;
            copy.walkFirst = walkFirst;
            copy.walkLast = walkLast;
            copy.prices = new ArrayList<>(prices);
            beds.forEach(bed -> copy.beds.add(new TreeMap<>(bed)));
            passes.forEach(pass -> copy.passes.add(new TreeMap<>(pass)));
            copy.cards = new ArrayList<>(cards);
            copy.blocked = new HashSet<>(blocked);
            copy.visits = new ArrayList<>(visits);
            copy.books = new TreeMap<>(books);
            return copy;
        }

        void book(String account, int amount) {
            books.merge(account, amount, Integer::sum);
        }

        int account(String account) {
            return books.getOrDefault(account, 0);
        }

        boolean openAt(int moment) {
            int tick = moment % 96;
            return tick > 31 && tick < 68 && !(walkFirst <= tick && tick <= walkLast);
        }

        boolean inSeason(int bed, int day) {
            return beds.get(bed).get("first") <= day && day <= beds.get(bed).get("last");
        }

        int priceFor(int scents, int days, int kind) {
            int product = 0;
            for (int scent = 0; scent < prices.size(); scent++) {
                product += scents / (int) Math.pow(2, scent) % 2 == 1 ? prices.get(scent) : 0;
            }
            product *= days;
            product *= kind == 0 ? 100 : 60;
            product *= days < 3 ? 100 : days < 6 ? 90 : 80;
            return Math.floorDiv(product, 10000);
        }

        List<Visit> visitsOf(int pass) {
            return visits.stream().filter(visit -> visit.pass() == pass).toList();
        }

        Visit latest(int pass) {
            List<Visit> own = visitsOf(pass);
            return own.isEmpty() ? null : own.get(own.size() - 1);
        }

        int visitsNow(int bed) {
            return (int) visits.stream().filter(visit -> visit.bed() == bed && visit.time() == time).count();
        }

        Set<Integer> usedDays(int pass) {
            Set<Integer> days = new HashSet<>();
            visitsOf(pass).forEach(visit -> days.add(visit.time() / 96));
            return days;
        }

        int lastDay(int pass) {
            return passes.get(pass).get("day") + passes.get(pass).get("days") - 1;
        }

        int cardOf(int pass) {
            for (int card = 0; card < cards.size(); card++) {
                if (cards.get(card) == pass && !blocked.contains(card)) {
                    return card;
                }
            }
            return -1;
        }

        boolean returned(int pass) {
            return passes.get(pass).containsKey("returned");
        }

        int refundOf(int pass) {
            if (returned(pass)) {
                return 0;
            }
            int left = 0;
            for (int day = passes.get(pass).get("day"); day <= lastDay(pass); day++) {
                left += day >= time / 96 && !usedDays(pass).contains(day) ? 1 : 0;
            }
            return passes.get(pass).get("price") * left / passes.get(pass).get("days") / 2;
        }

        int wait(int pass) {
            Visit latest = latest(pass);
            return latest == null ? 0 : Math.max(0, latest.time() + pause - time);
        }

        int refusal(int card, int bed) {
            int pass = cards.get(card);
            int day = time / 96;
            Map<String, Integer> row = passes.get(pass);
            boolean[] reasons = {!openAt(time), blocked.contains(card), day < row.get("day") || day > lastDay(pass),
                (row.get("scents") & 1 << beds.get(bed).get("scent")) == 0, row.get("owed") > 30, wait(pass) > 0,
                visitsNow(bed) >= beds.get(bed).get("places")};
            for (int reason = 0; reason < reasons.length; reason++) {
                if (reasons[reason]) {
                    return reason + 1;
                }
            }
            return 0;
        }

        void block(int pass) {
            int card = cardOf(pass);
            if (card >= 0) {
                blocked.add(card);
            }
        }

        void pay(int pass, int amount) {
            passes.get(pass).merge("owed", -amount, Integer::sum);
            book("fines", amount);
            book("paid", amount);
        }

        int reprice(int pass) {
            Map<String, Integer> row = passes.get(pass);
            int more = Math.max(0, priceFor(row.get("scents"), row.get("days"), row.get("kind")) - row.get("price"));
            row.merge("price", more, Integer::sum);
            book("paid", more);
            return more;
        }
    }

    State state = new State();
    private State snapshot;
    private final Deque<State> past = new ArrayDeque<>();
    private final StringBuilder input = new StringBuilder();
    private String report = "";
    int errorKind;
    int errorOffset = -1;

    Model() {
        input.append("garden 30 20 15; bed 0 2 0 9; bed 1 1 5 9; bed 2 3 0 0; sell 1 0 1 adult; sell 3 0 6 adult; "
                + "sell 7 1 3 child; pass 40; visit 0 0; visit 1 1; pluck 0 2; pass 2; visit 1 0; pluck 1 3; lost 0;");
        runScript();
        past.clear();
    }

    private static void need(boolean right, int fault) throws Fault {
        if (!right) {
            throw new Fault(fault);
        }
    }

    private static boolean within(int value, int least, int most) {
        return least <= value && value <= most;
    }

    int append(int[] words) {
        if (input.length() > 480) {
            return -2;
        }
        for (int word : words) {
            for (int part = 3; part >= 0; part--) {
                input.append((char) (word >> 8 * part & 255));
            }
        }
        return input.length();
    }

    int truncate(int length) {
        if (!within(length, 0, input.length())) {
            return THROWS_ARGUMENT;
        }
        input.setLength(length);
        return length;
    }

    int inputLength() {
        return input.length();
    }

    /** One of the changes by its name; the state changes only if it does not throw. */
    int change(String name, int... args) {
        State before = state.copy();
        try {
            int answer = apply(name, args);
            past.addLast(before);
            if (past.size() > 8) {
                past.removeFirst();
            }
            return answer;
        } catch (Fault fault) {
            state = before;
            return fault.kind;
        }
    }

    private void needPass(int pass) throws Fault {
        need(within(pass, 0, state.passes.size() - 1), THROWS_INDEX);
    }

    private void needCard(int card) throws Fault {
        need(within(card, 0, state.cards.size() - 1), THROWS_INDEX);
    }

    private void needBed(int bed) throws Fault {
        need(within(bed, 0, state.beds.size() - 1), THROWS_INDEX);
    }

    private void needScent(int scent) throws Fault {
        need(within(scent, 0, state.prices.size() - 1), THROWS_INDEX);
    }

    private void needSale(int scents, int days, int kind) throws Fault {
        need(within(scents, 1, (int) Math.pow(2, state.prices.size()) - 1), THROWS_ARGUMENT);
        need(within(days, 1, 14) && within(kind, 0, 1), THROWS_ARGUMENT);
    }

    private int apply(String name, int... a) throws Fault {
        switch (name) {
            case "setPrice":
                needScent(a[0]);
                need(within(a[1], 1, 99), THROWS_ARGUMENT);
                return state.prices.set(a[0], a[1]);
            case "setRate":
                need(within(a[0], 1, 20), THROWS_ARGUMENT);
                int rate = state.rate;
                state.rate = a[0];
                return rate;
            case "setPause":
                need(within(a[0], 0, 8), THROWS_ARGUMENT);
                int pause = state.pause;
                state.pause = a[0];
                return pause;
            case "bed":
                needScent(a[0]);
                need(within(a[1], 1, 20) && within(a[2], 0, 99) && within(a[3], a[2], 99), THROWS_ARGUMENT);
                need(state.beds.size() < 8, THROWS_STATE);
                state.beds.add(new TreeMap<>(Map.of("scent", a[0], "places", a[1], "first", a[2], "last", a[3], "blooms", 20)));
                return state.beds.size() - 1;
            case "peacocks":
                need(within(a[0], 0, 95) && within(a[1], a[0], 95), THROWS_ARGUMENT);
                state.walkFirst = a[0];
                state.walkLast = a[1];
                int open = 0;
                for (int tick = 0; tick < 96; tick++) {
                    open += state.openAt(tick) ? 1 : 0;
                }
                return open;
            case "sell":
                needSale(a[0], a[2], a[3]);
                need(within(a[1], state.time / 96, 99), THROWS_ARGUMENT);
                need(state.passes.size() < 30 && state.cards.size() < 50, THROWS_STATE);
                int price = state.priceFor(a[0], a[2], a[3]);
                state.passes.add(new TreeMap<>(Map.of("scents", a[0], "day", a[1], "days", a[2], "kind", a[3], "price", price, "owed", 0)));
                state.book("paid", price);
                state.cards.add(state.passes.size() - 1);
                return state.passes.size() - 1;
            case "pass":
                need(within(a[0], 1, 500), THROWS_ARGUMENT);
                need(state.time + a[0] <= 9599, THROWS_STATE);
                for (int tick = 0; tick < a[0]; tick++) {
                    state.time++;
                    for (int bed = 0; state.time % 96 == 0 && bed < state.beds.size(); bed++) {
                        int more = state.inSeason(bed, state.time / 96) ? 3 : 0;
                        state.beds.get(bed).put("blooms", Math.min(50, state.beds.get(bed).get("blooms") + more));
                    }
                }
                return state.time;
            default:
                return applyToPass(name, a);
        }
    }

    private int applyToPass(String name, int... a) throws Fault {
        int today = state.time / 96;
        switch (name) {
            case "extend":
                needPass(a[0]);
                need(within(a[1], 1, 13), THROWS_ARGUMENT);
                need(!state.returned(a[0]) && state.lastDay(a[0]) >= today, THROWS_STATE);
                need(state.passes.get(a[0]).get("days") + a[1] <= 14, THROWS_STATE);
                state.passes.get(a[0]).merge("days", a[1], Integer::sum);
                return state.reprice(a[0]);
            case "addScent":
                needPass(a[0]);
                needScent(a[1]);
                need(!state.returned(a[0]) && state.lastDay(a[0]) >= today, THROWS_STATE);
                need((state.passes.get(a[0]).get("scents") & 1 << a[1]) == 0, THROWS_STATE);
                state.passes.get(a[0]).merge("scents", 1 << a[1], Integer::sum);
                return state.reprice(a[0]);
            case "lost":
                needPass(a[0]);
                int lost = state.cardOf(a[0]);
                need(lost >= 0, THROWS_STATE);
                state.block(a[0]);
                return lost;
            case "replace":
                needPass(a[0]);
                need(state.cardOf(a[0]) < 0 && !state.returned(a[0]) && state.cards.size() < 50, THROWS_STATE);
                state.cards.add(a[0]);
                state.book("paid", 5);
                return state.cards.size() - 1;
            case "refund":
                needPass(a[0]);
                need(!state.returned(a[0]), THROWS_STATE);
                int refund = state.refundOf(a[0]);
                int fines = Math.min(refund, state.passes.get(a[0]).get("owed"));
                state.pay(a[0], fines);
                state.book("refunds", refund);
                state.block(a[0]);
                state.passes.get(a[0]).put("returned", 1);
                return refund - fines;
            case "pay":
                needPass(a[0]);
                need(within(a[1], 1, 9999), THROWS_ARGUMENT);
                need(state.passes.get(a[0]).get("owed") >= a[1], THROWS_STATE);
                state.pay(a[0], a[1]);
                return state.passes.get(a[0]).get("owed");
            default:
                return applyToCard(name, a);
        }
    }

    private int applyToCard(String name, int... a) throws Fault {
        needCard(a[0]);
        int pass = state.cards.get(a[0]);
        if (name.equals("visit")) {
            needBed(a[1]);
            int reason = state.refusal(a[0], a[1]);
            state.book("alarms", reason == 2 ? 1 : 0);
            if (reason == 0) {
                state.visits.add(new Visit(pass, a[1], state.time));
            }
            return reason;
        }
        need(within(a[1], 1, 9), THROWS_ARGUMENT);
        Visit latest = state.latest(pass);
        need(!state.blocked.contains(a[0]) && latest != null && latest.time() == state.time, THROWS_STATE);
        need(state.beds.get(latest.bed()).get("blooms") >= a[1], THROWS_STATE);
        int fine = fine(latest.bed(), a[1]);
        state.beds.get(latest.bed()).merge("blooms", -a[1], Integer::sum);
        state.passes.get(pass).merge("owed", fine, Integer::sum);
        state.book("plucked", a[1]);
        return fine;
    }

    private int fine(int bed, int blooms) {
        return blooms * state.rate * (state.inSeason(bed, state.time / 96) ? 2 : 1);
    }

    int undo() {
        if (past.isEmpty()) {
            return -1;
        }
        state = past.removeLast();
        return past.size();
    }

    int undoCount() {
        return past.size();
    }

    int save() {
        snapshot = state.copy();
        return state.time;
    }

    int restore() {
        if (snapshot == null) {
            return THROWS_ELEMENT;
        }
        state = snapshot.copy();
        past.clear();
        return state.time;
    }

    int quote(int scents, int days, int kind) {
        try {
            needSale(scents, days, kind);
            return state.priceFor(scents, days, kind);
        } catch (Fault fault) {
            return fault.kind;
        }
    }

    int fineFor(int bed, int blooms) {
        try {
            needBed(bed);
            need(within(blooms, 1, 9), THROWS_ARGUMENT);
            return fine(bed, blooms);
        } catch (Fault fault) {
            return fault.kind;
        }
    }

    int why(int card, int bed) {
        try {
            needCard(card);
            needBed(bed);
            return state.refusal(card, bed);
        } catch (Fault fault) {
            return fault.kind;
        }
    }

    int writePass(int pass) {
        try {
            needPass(pass);
        } catch (Fault fault) {
            return fault.kind;
        }
        StringBuilder text = new StringBuilder();
        for (int day = state.passes.get(pass).get("day"); day <= state.lastDay(pass); day++) {
            text.append(state.usedDays(pass).contains(day) ? 'x' : day < state.time / 96 ? '-' : '.');
        }
        report = text.toString();
        return report.length();
    }

    int reportByte(int index) {
        return within(index, 0, report.length() - 1) ? report.charAt(index) : -1;
    }

    /** All that Picture asks a bureau, in the same form. */
    String picture() {
        StringBuilder text = new StringBuilder();
        State s = state;
        int wait = 0;
        while (wait < 96 && !s.openAt(s.time + wait)) {
            wait++;
        }
        add(text, "time", s.time, s.time / 96, s.openAt(s.time) ? 1 : 0, wait == 96 ? -1 : wait);
        add(text, "books", s.account("paid") - s.account("refunds"), s.account("refunds"), s.account("fines"),
                s.account("plucked"), s.account("alarms"), 0);
        int usedDays = 0;
        for (int pass = 0; pass < s.passes.size(); pass++) {
            usedDays += s.usedDays(pass).size();
        }
        text.append(" shares ").append(s.visits.isEmpty() ? 0.0 : (double) s.visits.size() / (double) usedDays);
        text.append(' ').append(s.cards.isEmpty() ? 0.0f : (float) s.blocked.size() / (float) s.cards.size());
        for (int scent = 0; scent < 5; scent++) {
            add(text, "scent", scent < s.prices.size() ? s.priceFor(1 << scent, 1, 0) : -1);
        }
        for (int bed = 0; bed < s.beds.size(); bed++) {
            int number = bed;
            Map<String, Integer> row = s.beds.get(bed);
            add(text, "\nbed", row.get("scent"), s.inSeason(bed, s.time / 96) ? 1 : 0, row.get("blooms"),
                    row.get("places") - s.visitsNow(bed),
                    (int) s.visits.stream().filter(visit -> visit.bed() == number).count(), fine(bed, 1), fine(bed, 9));
        }
        for (int pass = 0; pass < s.passes.size(); pass++) {
            Map<String, Integer> row = s.passes.get(pass);
            add(text, "\npass", row.get("scents"), row.get("day"), s.lastDay(pass), row.get("price"), s.cardOf(pass),
                    s.returned(pass) ? 1 : 0, s.usedDays(pass).size(), s.visitsOf(pass).size(), s.refundOf(pass),
                    row.get("owed"), s.wait(pass));
            writePass(pass);
            text.append(' ').append(report);
        }
        for (int card = 0; card < s.cards.size(); card++) {
            addCard(text, card);
        }
        return text.toString();
    }

    private void addCard(StringBuilder text, int card) {
        int beds = 0;
        StringBuilder reasons = new StringBuilder();
        for (int bed = 0; bed < state.beds.size(); bed++) {
            int reason = state.refusal(card, bed);
            beds += reason == 0 ? 1 << bed : 0;
            add(reasons, "bed", reason, reason == 0 ? 0 : reason == 5 ? 1 : 2);
        }
        add(text, "\ncard", state.cards.get(card), state.blocked.contains(card) ? 1 : 0, beds);
        text.append(reasons);
    }

    private static void add(StringBuilder text, String name, int... values) {
        text.append(' ').append(name);
        for (int value : values) {
            text.append(' ').append(value);
        }
    }

    // ---- scripts: the tokens are cut first, then each command is matched against the row of its kinds

    private record Token(String text, int offset) {
        boolean isNumber() {
            return text.matches("[0-9]{1,4}");
        }
    }

    private static final Map<String, String> COMMANDS = new LinkedHashMap<>();

    static {
        COMMANDS.put("bed", "SCENT PLACES DAY NEXTDAY");
        COMMANDS.put("sell", "SCENTS FROMDAY DAYS KIND");
        COMMANDS.put("visit", "CARD BED");
        COMMANDS.put("pluck", "CARD BLOOMS");
        COMMANDS.put("pay", "PASS AMOUNT");
        COMMANDS.put("lost", "PASS");
        COMMANDS.put("replace", "PASS");
        COMMANDS.put("peacocks", "TICK NEXTTICK");
        COMMANDS.put("pass", "TICKS");
        COMMANDS.put("refund", "PASS");
    }

    private final List<Token> tokens = new ArrayList<>();
    private int position;

    int runScript() {
        State before = state;
        state = new State();
        errorKind = 0;
        errorOffset = -1;
        tokens.clear();
        position = 0;
        Matcher matcher = Pattern.compile("[a-z]+|[0-9]+|[^ \\n]", Pattern.DOTALL).matcher(input);
        while (matcher.find()) {
            tokens.add(new Token(matcher.group(), matcher.start()));
        }
        tokens.add(new Token("", input.length()));
        input.setLength(0);
        try {
            executeAll();
        } catch (Fault fault) {
            errorKind = fault.kind;
            errorOffset = tokens.get(position).offset();
            state = before;
            return -1;
        }
        past.addLast(before);
        if (past.size() > 8) {
            past.removeFirst();
        }
        return state.passes.size();
    }

    private void executeAll() throws Fault {
        need(tokens.get(position).text().equals("garden"), 1);
        position++;
        do {
            int price = number(1, 99);
            need(state.prices.size() < 5, 3);
            state.prices.add(price);
            position++;
        } while (tokens.get(position).isNumber());
        need(tokens.get(position).text().equals(";"), 1);
        position++;
        while (!tokens.get(position).text().isEmpty()) {
            executeOne();
        }
    }

    private void executeOne() throws Fault {
        String name = tokens.get(position).text();
        need(COMMANDS.containsKey(name), 1);
        position++;
        String[] kinds = COMMANDS.get(name).split(" ");
        int[] args = new int[kinds.length];
        for (int index = 0; index < kinds.length; index++) {
            args[index] = argument(kinds[index], index > 0 ? args[index - 1] : 0);
            position++;
        }
        need(tokens.get(position).text().equals(";"), 1);
        int answer;
        try {
            answer = apply(name, args);
        } catch (Fault fault) {
            throw new Fault(fault.kind == THROWS_STATE ? 4 : 99);
        }
        need(!name.equals("visit") || answer == 0, 4);
        position++;
    }

    private int argument(String kind, int previous) throws Fault {
        switch (kind) {
            case "SCENT":
                return number(0, state.prices.size() - 1);
            case "PLACES":
                return number(1, 20);
            case "DAY":
                return number(0, 99);
            case "NEXTDAY":
                return number(previous, 99);
            case "SCENTS":
                return number(1, (int) Math.pow(2, state.prices.size()) - 1);
            case "FROMDAY":
                return number(state.time / 96, 99);
            case "DAYS":
                return number(1, 14);
            case "CARD":
                return number(0, state.cards.size() - 1);
            case "BED":
                return number(0, state.beds.size() - 1);
            case "BLOOMS":
                return number(1, 9);
            case "PASS":
                return number(0, state.passes.size() - 1);
            case "AMOUNT":
                return number(1, 9999);
            case "TICK":
                return number(0, 95);
            case "NEXTTICK":
                return number(previous, 95);
            case "TICKS":
                return number(1, 500);
            default:
                String word = tokens.get(position).text();
                need(word.equals("adult") || word.equals("child"), 1);
                return word.equals("child") ? 1 : 0;
        }
    }

    private int number(int least, int most) throws Fault {
        Token token = tokens.get(position);
        need(token.isNumber(), 1);
        need(within(Integer.parseInt(token.text()), least, most), 2);
        return Integer.parseInt(token.text());
    }
}
