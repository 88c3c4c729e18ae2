import java.lang.reflect.Constructor;
import java.lang.reflect.Executable;
import java.lang.reflect.Field;
import java.lang.reflect.Member;
import java.lang.reflect.Method;
import java.lang.reflect.Modifier;
import java.util.ArrayList;
import java.util.List;
import java.util.Set;
import java.util.TreeMap;
import java.util.TreeSet;

/** The public face: what stands in the document under "The public face", and nothing else. */
public final class FaceTest {
    private static final String CONSTANT = "public static final int ";
    private static final int METHODS = 64;
    private static final int CONSTANTS = 15;

    private FaceTest() {
    }

    public static void main(String[] args) throws IllegalAccessException {
        Check.same("the class is public and final",
                GardenBureau.class.getModifiers() & (Modifier.PUBLIC | Modifier.FINAL), Modifier.PUBLIC | Modifier.FINAL);
        checkCalls();
        checkNames();
        checkConstants();
        checkClassesInside();
        Check.end("FaceTest");
    }

    private static void checkCalls() {
        Set<String> due = new TreeSet<>();
        for (String line : Texts.linesOfBlocks(Texts.DOCUMENT, "java")) {
            if (line.startsWith("public ") && line.contains("(")) {
                due.add(withoutNames(line));
            }
        }
        Set<String> got = new TreeSet<>();
        for (Method method : GardenBureau.class.getDeclaredMethods()) {
            if (isSeen(method)) {
                got.add(describe(method, method.getReturnType().getSimpleName() + " " + method.getName()));
            }
        }
        for (Constructor<?> constructor : GardenBureau.class.getDeclaredConstructors()) {
            got.add(describe(constructor, "GardenBureau"));
        }
        Check.same("the document's methods and its constructor", due.size(), METHODS + 1);
        Check.same("the methods and the constructor", got.toString(), due.toString());
    }

    private static void checkNames() {
        Set<String> publicNames = new TreeSet<>();
        for (Method method : GardenBureau.class.getMethods()) {
            publicNames.add(method.getName());
        }
        for (Method method : GardenBureau.class.getDeclaredMethods()) {
            if (!isSeen(method)) {
                Check.same(method.getName() + " is also public", publicNames.contains(method.getName()), false);
            }
        }
    }

    private static void checkConstants() throws IllegalAccessException {
        TreeMap<String, Integer> due = new TreeMap<>();
        for (String line : Texts.linesOfBlocks(Texts.DOCUMENT, "java")) {
            if (line.startsWith(CONSTANT)) {
                for (String constant : line.substring(CONSTANT.length(), line.length() - 1).split(", ")) {
                    String[] parts = constant.split(" = ");
                    due.put(parts[0], Integer.valueOf(parts[1]));
                }
            }
        }
        TreeMap<String, Integer> got = new TreeMap<>();
        for (Field field : GardenBureau.class.getDeclaredFields()) {
            if (isSeen(field)) {
                Check.same("the declaration of " + field.getName(), field.toString(),
                        CONSTANT + "GardenBureau." + field.getName());
                got.put(field.getName(), field.getInt(null));
            }
        }
        Check.same("the document's constants", due.size(), CONSTANTS);
        Check.same("the constants", got.toString(), due.toString());
    }

    private static void checkClassesInside() {
        for (Class<?> inside : GardenBureau.class.getDeclaredClasses()) {
            Check.same(inside.getSimpleName() + " is public or protected",
                    inside.getModifiers() & (Modifier.PUBLIC | Modifier.PROTECTED), 0);
        }
    }

    private static boolean isSeen(Member member) {
        return !Modifier.isPrivate(member.getModifiers());
    }

    // "public int pluck(int card, int blooms) throws X, Y;" becomes "public int pluck(int, int) throws X, Y".
    private static String withoutNames(String line) {
        return line.replaceAll("(int|boolean|long|double|float) \\w+(?=[,)])", "$1").replace(";", "");
    }

    private static String describe(Executable call, String name) {
        StringBuilder text = new StringBuilder(Modifier.toString(call.getModifiers()));
        text.append(' ').append(name).append('(').append(names(call.getParameterTypes())).append(')');
        if (call.getExceptionTypes().length > 0) {
            text.append(" throws ").append(names(call.getExceptionTypes()));
        }
        return text.toString();
    }

    private static String names(Class<?>[] types) {
        List<String> names = new ArrayList<>();
        for (Class<?> type : types) {
            names.add(type.getSimpleName());
        }
        return String.join(", ", names);
    }
}
