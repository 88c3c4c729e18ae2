import java.lang.reflect.Constructor;
import java.lang.reflect.Field;
import java.lang.reflect.Member;
import java.lang.reflect.Method;
import java.lang.reflect.Modifier;
import java.util.Set;
import java.util.TreeMap;
import java.util.TreeSet;

/** The public face: the constants, and the methods with their parameters and exceptions, and nothing else. */
public final class FaceTest {
    private static final String METHODS = "append(5):int truncateInput(1):int!IllegalArgumentException runScript(0):int "
            + "setPrice(2):int!IndexOutOfBoundsException!IllegalArgumentException setRate(1):int!IllegalArgumentException "
            + "layBed(4):int!IndexOutOfBoundsException!IllegalArgumentException!IllegalStateException "
            + "setPeacocks(2):int!IllegalArgumentException setPause(1):int!IllegalArgumentException "
            + "sell(4):int!IllegalArgumentException!IllegalStateException "
            + "extend(2):int!IndexOutOfBoundsException!IllegalArgumentException!IllegalStateException "
            + "addScent(2):int!IndexOutOfBoundsException!IllegalStateException "
            + "reportLost(1):int!IndexOutOfBoundsException!IllegalStateException "
            + "replaceCard(1):int!IndexOutOfBoundsException!IllegalStateException "
            + "refundPass(1):int!IndexOutOfBoundsException!IllegalStateException visit(2):int!IndexOutOfBoundsException "
            + "pluck(2):int!IndexOutOfBoundsException!IllegalArgumentException!IllegalStateException "
            + "payFines(2):int!IndexOutOfBoundsException!IllegalArgumentException!IllegalStateException "
            + "pass(1):int!IllegalArgumentException!IllegalStateException undo(0):int undoCount(0):int "
            + "saveSnapshot(0):int restoreSnapshot(0):int!NoSuchElementException scriptErrorKind(0):int "
            + "scriptErrorOffset(0):int time(0):int day(0):int isOpen(0):boolean ticksUntilOpen(0):int bedCount(0):int "
            + "scentOf(1):int!IndexOutOfBoundsException isInSeason(1):boolean!IndexOutOfBoundsException "
            + "blooms(1):int!IndexOutOfBoundsException placesLeft(1):int!IndexOutOfBoundsException "
            + "visitsTo(1):int!IndexOutOfBoundsException passCount(0):int scentsOf(1):int!IndexOutOfBoundsException "
            + "firstDay(1):int!IndexOutOfBoundsException lastDay(1):int!IndexOutOfBoundsException "
            + "priceOf(1):int!IndexOutOfBoundsException cardOf(1):int!IndexOutOfBoundsException "
            + "isReturned(1):boolean!IndexOutOfBoundsException usedDays(1):int!IndexOutOfBoundsException "
            + "visitsWith(1):int!IndexOutOfBoundsException refundOf(1):int!IndexOutOfBoundsException "
            + "owed(1):int!IndexOutOfBoundsException ticksUntilReady(1):int!IndexOutOfBoundsException cardCount(0):int "
            + "passOf(1):int!IndexOutOfBoundsException isBlocked(1):boolean!IndexOutOfBoundsException "
            + "whyRefused(2):int!IndexOutOfBoundsException sign(2):int!IndexOutOfBoundsException "
            + "bedsFor(1):int!IndexOutOfBoundsException quote(3):int!IllegalArgumentException "
            + "fineFor(2):int!IndexOutOfBoundsException!IllegalArgumentException takings(0):int refunds(0):int "
            + "finesPaid(0):int plucked(0):int alarms(0):int visitsPerDay(0):double blockedShare(0):float violations(0):int "
            + "writePass(1):int!IndexOutOfBoundsException reportByte(1):int";
    private static final String CONSTANTS = "{ADULT=0, ALLOWED=0, BED_FULL=7, CARD_BLOCKED=2, CHILD=1, FINES_OPEN=5, "
            + "GARDEN_CLOSED=1, NODS=0, NONE=-1, NOT_TODAY=3, NO_ROOM=-2, POINTS=1, SHAKES=2, TOO_SOON=6, WRONG_SCENT=4}";

    private FaceTest() {
    }

    public static void main(String[] args) throws IllegalAccessException {
        Check.same("the class is public and final",
                GardenBureau.class.getModifiers() & (Modifier.PUBLIC | Modifier.FINAL), Modifier.PUBLIC | Modifier.FINAL);
        checkMethods();
        checkConstants();
        for (Constructor<?> constructor : GardenBureau.class.getDeclaredConstructors()) {
            Check.same("constructor", constructor.toString(), "public GardenBureau()");
        }
        Check.end("FaceTest");
    }

    private static void checkMethods() {
        Set<String> got = new TreeSet<>();
        Set<String> publicNames = new TreeSet<>();
        for (Method method : GardenBureau.class.getDeclaredMethods()) {
            if (isSeen(method)) {
                got.add(describe(method));
                publicNames.add(method.getName());
            }
        }
        Check.same("methods", got.toString(), new TreeSet<>(Set.of(METHODS.split(" "))).toString());
        for (Method method : GardenBureau.class.getDeclaredMethods()) {
            if (!isSeen(method)) {
                Check.same(method.getName() + " is also public", publicNames.contains(method.getName()), false);
            }
        }
    }

    private static void checkConstants() throws IllegalAccessException {
        TreeMap<String, Integer> got = new TreeMap<>();
        for (Field field : GardenBureau.class.getDeclaredFields()) {
            if (isSeen(field)) {
                Check.same(field.getName() + " is static and final",
                        field.getModifiers() & (Modifier.STATIC | Modifier.FINAL), Modifier.STATIC | Modifier.FINAL);
                got.put(field.getName(), field.getInt(null));
            }
        }
        Check.same("constants", got.toString(), CONSTANTS);
    }

    private static boolean isSeen(Member member) {
        return !Modifier.isPrivate(member.getModifiers());
    }

    private static String describe(Method method) {
        StringBuilder text = new StringBuilder(method.getName());
        text.append('(').append(method.getParameterCount()).append("):").append(method.getReturnType().getSimpleName());
        for (Class<?> type : method.getExceptionTypes()) {
            text.append('!').append(type.getSimpleName());
        }
        return text.toString();
    }
}
