import java.lang.reflect.Constructor;
import java.lang.reflect.Field;
import java.lang.reflect.Method;
import java.lang.reflect.Modifier;
import java.util.ArrayList;
import java.util.Arrays;
import java.util.Collections;
import java.util.List;

/** The public face: the document's constants, constructor and methods, and nothing else. */
public final class FaceTest {
    private static final String I = "IllegalStateException";
    private static final String B = "IndexOutOfBoundsException";
    private static final String A = "IllegalArgumentException";
    private static final String N = "NoSuchElementException";

    public static void main(String[] args) {
        Check check = new Check("FaceTest");
        Class<WitchTrial> face = WitchTrial.class;
        check.equal("modifiers", face.getModifiers(), Modifier.PUBLIC | Modifier.FINAL);
        checkConstants(check);
        check.equal("fields", open(face.getDeclaredFields()), List.of(
                "DAY=1", "GUARD=3", "IS_GUARD=3", "IS_HONEST=1", "IS_SEER=2", "IS_WITCH=0", "NIGHT=2",
                "NONE=-1", "NO_GAME=0", "SEER=2", "VILLAGER=0", "VILLAGE_WON=3", "WITCH=1", "WITCHES_WON=4"));
        check.equal("constructors", face.getDeclaredConstructors().length, 1);
        Constructor<?> made = face.getDeclaredConstructors()[0];
        check.equal("constructor", made.getModifiers() + made.getParameterCount(), Modifier.PUBLIC);
        check.equal("methods", open(face.getDeclaredMethods()), List.of(
                "boolean isPossible(int,int,int,int) " + I + " " + B,
                "int alive() " + I, "int attack(int) " + I + " " + B + " " + A,
                "int bestLook() " + I, "int claim(int,int,int) " + I + " " + B + " " + A + " " + N,
                "int claimAmong(int,int) " + I + " " + B + " " + A + " " + N, "int closeVote() " + I,
                "int day() " + I, "int endNight() " + I, "int look(int) " + I + " " + B + " " + A,
                "int lookedAt() " + I, "int phase()", "int protect(int) " + I + " " + B + " " + A,
                "int start(int,int,int,int) " + A, "int sureHonest(int) " + I + " " + B,
                "int sureWitches(int) " + I + " " + B, "int suspect(int) " + I + " " + B,
                "int vote(int,int) " + I + " " + B + " " + A, "int votesFor(int) " + I + " " + B,
                "int witchSets(int) " + I + " " + B, "int worlds(int) " + I + " " + B,
                "int worldsWith(int,int,int) " + I + " " + B + " " + A));
        check.finish();
    }

    private static void checkConstants(Check check) {
        check.equal("NONE", WitchTrial.NONE, -1);
        check.equal("roles", List.of(WitchTrial.VILLAGER, WitchTrial.WITCH, WitchTrial.SEER, WitchTrial.GUARD),
                List.of(0, 1, 2, 3));
        check.equal("claims", List.of(WitchTrial.IS_WITCH, WitchTrial.IS_HONEST, WitchTrial.IS_SEER,
                WitchTrial.IS_GUARD), List.of(0, 1, 2, 3));
        check.equal("phases", List.of(WitchTrial.NO_GAME, WitchTrial.DAY, WitchTrial.NIGHT,
                WitchTrial.VILLAGE_WON, WitchTrial.WITCHES_WON), List.of(0, 1, 2, 3, 4));
    }

    private static List<String> open(Field[] fields) {
        List<String> names = new ArrayList<>();
        for (Field field : fields) {
            if (!Modifier.isPrivate(field.getModifiers())) {
                names.add(field.getName() + "=" + Check.outcome(() -> valueOf(field)));
            }
        }
        Collections.sort(names);
        return names;
    }

    private static Object valueOf(Field field) {
        try {
            return field.getModifiers() == (Modifier.PUBLIC | Modifier.STATIC | Modifier.FINAL) ? field.get(null) : "no";
        } catch (IllegalAccessException e) {
            return "hidden";
        }
    }

    private static List<String> open(Method[] methods) {
        List<String> calls = new ArrayList<>();
        for (Method method : methods) {
            if (!Modifier.isPrivate(method.getModifiers())) {
                calls.add(told(method));
            }
        }
        Collections.sort(calls);
        return calls;
    }

    private static String told(Method method) {
        StringBuilder text = new StringBuilder();
        text.append(method.getReturnType()).append(' ').append(method.getName()).append('(');
        List<String> types = new ArrayList<>();
        for (Class<?> type : method.getParameterTypes()) {
            types.add(type.getName());
        }
        text.append(String.join(",", types)).append(')');
        for (Class<?> thrown : Arrays.asList(method.getExceptionTypes())) {
            text.append(' ').append(thrown.getSimpleName());
        }
        return method.getModifiers() == Modifier.PUBLIC ? text.toString() : "not just public: " + text;
    }
}
