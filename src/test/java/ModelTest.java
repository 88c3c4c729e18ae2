import java.util.Random;

/** Long runs of calls, drawn with fixed seeds, whose answers must be those of the plain Model. */
public final class ModelTest {
    private static final String[] CHANGES = {"setPrice", "setRate", "bed", "peacocks", "setPause", "sell", "sell", "extend",
        "extend", "addScent", "lost", "replace", "replace", "refund", "visit", "visit", "visit", "visit", "pluck", "pluck",
        "pluck", "pay", "pay", "pass", "pass", "pass"};
    private static final String[] COMMANDS = {"bed", "sell", "sell", "visit", "visit", "pluck", "pay", "lost", "replace",
        "peacocks", "pass", "refund"};
    private static final int RUNS = 150;
    private static final int CALLS = 500;

    private final Random random;
    private final GardenBureau bureau = new GardenBureau();
    private final Model model = new Model();
    private String call = "";

    private ModelTest(long seed) {
        random = new Random(seed);
    }

    public static void main(String[] args) {
        for (int seed = 1; seed <= RUNS; seed++) {
            ModelTest test = new ModelTest(seed);
            for (int index = 0; index < CALLS; index++) {
                test.step("seed " + seed + ", call " + index + ", ");
            }
        }
        Check.end("ModelTest");
    }

    private interface Answer {
        int get();
    }

    private static int answer(Answer answer) {
        try {
            return answer.get();
        } catch (RuntimeException e) {
            return switch (e.getClass().getSimpleName()) {
                case "IndexOutOfBoundsException" -> Model.THROWS_INDEX;
                case "IllegalArgumentException" -> Model.THROWS_ARGUMENT;
                case "IllegalStateException" -> Model.THROWS_STATE;
                case "NoSuchElementException" -> Model.THROWS_ELEMENT;
                default -> throw e;
            };
        }
    }

    private void step(String where) {
        int kind = random.nextInt(100);
        int got;
        int due;
        if (kind < 78) {
            String name = CHANGES[random.nextInt(CHANGES.length)];
            int[] a = arguments(name);
            call = name + java.util.Arrays.toString(a);
            due = model.change(name, a);
            got = answer(() -> change(name, a));
        } else if (kind < 83) {
            call = "undo";
            due = model.undo();
            got = bureau.undo();
        } else if (kind < 85) {
            call = "save";
            due = model.save();
            got = bureau.saveSnapshot();
        } else if (kind < 86) {
            call = "restore";
            due = model.restore();
            got = answer(bureau::restoreSnapshot);
        } else if (kind < 90) {
            due = runScripts();
            got = bureau.runScript();
        } else {
            due = question();
            got = gotOfQuestion;
        }
        Check.same(where + call, got, due);
        if (kind < 90) {
            Check.same(where + "state behind " + call, Picture.of(bureau), model.picture());
        }
        Check.same(where + "undoCount", bureau.undoCount(), model.undoCount());
        Check.same(where + "error kind of " + call, bureau.scriptErrorKind(), model.errorKind);
        Check.same(where + "error offset of " + call, bureau.scriptErrorOffset(), model.errorOffset);
    }

    private int around(int least, int most) {
        if (random.nextInt(40) == 0) {
            return random.nextBoolean() ? Integer.MAX_VALUE : Integer.MIN_VALUE;
        }
        if (random.nextInt(20) == 0) {
            return random.nextBoolean() ? least - 1 : most + 1;
        }
        return most < least ? least : least + random.nextInt(most - least + 1);
    }

    private int scents() {
        return around(1, (1 << model.state.prices.size()) - 1);
    }

    private int pass() {
        return around(0, model.state.passes.size() - 1);
    }

    private int card() {
        return around(0, model.state.cards.size() - 1);
    }

    private int bed() {
        return around(0, model.state.beds.size() - 1);
    }

    private int day() {
        return around(model.state.time / 96, Math.min(99, model.state.time / 96 + 3));
    }

    private int ticks() {
        return switch (random.nextInt(5)) {
            case 0 -> around(1, 500);
            case 1 -> 1 + (96 + 32 - model.state.time % 96) % 96;
            default -> around(1, 6);
        };
    }

    private int[] arguments(String name) {
        int scent = around(0, model.state.prices.size() - 1);
        return switch (name) {
            case "setPrice" -> new int[] {scent, around(1, 99)};
            case "setRate" -> new int[] {around(1, 20)};
            case "setPause" -> new int[] {around(0, 8)};
            case "bed" -> new int[] {scent, around(1, random.nextBoolean() ? 2 : 20), day(), around(random.nextInt(6), 99)};
            case "peacocks" -> new int[] {around(0, 95), around(60, 95)};
            case "sell" -> new int[] {scents(), day(), around(1, 14), around(0, 1)};
            case "extend" -> new int[] {pass(), around(1, random.nextBoolean() ? 3 : 13)};
            case "addScent" -> new int[] {pass(), scent};
            case "lost", "replace", "refund" -> new int[] {pass()};
            case "visit" -> new int[] {card(), bed()};
            case "pluck" -> new int[] {card(), around(1, 9)};
            case "pay" -> new int[] {pass(), around(1, random.nextInt(4) == 0 ? 9999 : 20)};
            default -> new int[] {ticks()};
        };
    }

    private int change(String name, int[] a) {
        return switch (name) {
            case "setPrice" -> bureau.setPrice(a[0], a[1]);
            case "setRate" -> bureau.setRate(a[0]);
            case "setPause" -> bureau.setPause(a[0]);
            case "bed" -> bureau.layBed(a[0], a[1], a[2], a[3]);
            case "peacocks" -> bureau.setPeacocks(a[0], a[1]);
            case "sell" -> bureau.sell(a[0], a[1], a[2], a[3]);
            case "extend" -> bureau.extend(a[0], a[1]);
            case "addScent" -> bureau.addScent(a[0], a[1]);
            case "lost" -> bureau.reportLost(a[0]);
            case "replace" -> bureau.replaceCard(a[0]);
            case "refund" -> bureau.refundPass(a[0]);
            case "visit" -> bureau.visit(a[0], a[1]);
            case "pluck" -> bureau.pluck(a[0], a[1]);
            case "pay" -> bureau.payFines(a[0], a[1]);
            default -> bureau.pass(a[0]);
        };
    }

    private int gotOfQuestion;

    private int question() {
        int a = random.nextBoolean() ? card() : scents();
        int b = around(0, 15);
        int c = around(0, 1);
        switch (random.nextInt(6)) {
            case 0:
                call = "quote " + a + " " + b + " " + c;
                gotOfQuestion = answer(() -> bureau.quote(a, b, c));
                return model.quote(a, b, c);
            case 1:
                call = "fineFor " + a + " " + b;
                gotOfQuestion = answer(() -> bureau.fineFor(a, b));
                return model.fineFor(a, b);
            case 2:
                call = "whyRefused " + a + " " + b;
                gotOfQuestion = answer(() -> bureau.whyRefused(a, b));
                return model.why(a, b);
            case 3:
                call = "writePass " + a;
                gotOfQuestion = answer(() -> bureau.writePass(a));
                return model.writePass(a);
            case 4:
                call = "reportByte " + b;
                gotOfQuestion = answer(() -> bureau.reportByte(b));
                return model.reportByte(b);
            default:
                int length = around(0, model.inputLength());
                call = "truncateInput " + length;
                gotOfQuestion = answer(() -> bureau.truncateInput(length));
                return model.truncate(length);
        }
    }

    // ---- scripts, right up to a fault that is put in at times

    private int runScripts() {
        String text = script();
        if (random.nextInt(3) == 0) {
            text = withFault(text);
        }
        call = "script <" + text + ">";
        Check.same(call + " truncate", bureau.truncateInput(0), model.truncate(0));
        for (int start = 0; start < text.length(); start += 20) {
            int[] w = new int[5];
            for (int index = 0; index < 20; index++) {
                int sign = start + index < text.length() ? text.charAt(start + index) : ' ';
                w[index / 4] = w[index / 4] << 8 | sign;
            }
            Check.same(call + " append", bureau.append(w[0], w[1], w[2], w[3], w[4]), model.append(w));
        }
        return model.runScript();
    }

    private String withFault(String text) {
        StringBuilder faulty = new StringBuilder(text);
        int place = random.nextInt(text.length());
        switch (random.nextInt(4)) {
            case 0 -> faulty.setLength(place);
            case 1 -> faulty.deleteCharAt(place);
            case 2 -> faulty.insert(place, "9");
            default -> faulty.setCharAt(place, " ;0a\u00ff12345\n".charAt(random.nextInt(11)));
        }
        return faulty.toString();
    }

    private String script() {
        StringBuilder text = new StringBuilder("garden");
        int scents = 1 + random.nextInt(random.nextInt(10) == 0 ? 6 : 5);
        for (int scent = 0; scent < scents; scent++) {
            text.append(' ').append(random.nextInt(30) == 0 ? 100 * random.nextInt(2) : 1 + random.nextInt(99));
        }
        text.append(";bed 0 2 0 9;sell 1 0 3 child;sell 1 0 14adult;");
        if (random.nextBoolean()) {
            text.append("pass 32;");
        }
        int count = random.nextInt(25);
        for (int index = 0; index < count; index++) {
            text.append(COMMANDS[random.nextInt(COMMANDS.length)]);
            appendNumbers(text, scents);
        }
        return text.length() > 500 ? text.substring(0, 500) : text.toString();
    }

    private void appendNumbers(StringBuilder text, int scents) {
        String name = text.substring(Math.max(text.lastIndexOf(";"), text.lastIndexOf("\n")) + 1);
        int small = random.nextInt(random.nextInt(4) == 0 ? 4 : 2);
        switch (name) {
            case "bed" -> numbers(text, random.nextInt(scents), 1 + random.nextInt(20), small, small + random.nextInt(9));
            case "sell" -> {
                numbers(text, 1 + random.nextInt((1 << scents) - 1), small, 1 + random.nextInt(14));
                text.append(random.nextBoolean() ? " adult" : " child");
            }
            case "visit", "pay" -> numbers(text, small, random.nextInt(3));
            case "pluck" -> numbers(text, small, 1 + random.nextInt(9));
            case "peacocks" -> numbers(text, random.nextInt(20), random.nextInt(40));
            case "pass" -> numbers(text, random.nextInt(4) == 0 ? random.nextInt(502) : 1 + random.nextInt(3));
            default -> numbers(text, small);
        }
        text.append(random.nextInt(5) == 0 ? " ;\n" : ";");
    }

    private static void numbers(StringBuilder text, int... numbers) {
        for (int number : numbers) {
            text.append(' ').append(number);
        }
    }
}
