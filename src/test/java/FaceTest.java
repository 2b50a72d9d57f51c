import java.lang.reflect.Constructor;
import java.lang.reflect.Field;
import java.lang.reflect.Member;
import java.lang.reflect.Method;
import java.lang.reflect.Modifier;
import java.util.Arrays;
import java.util.Set;
import java.util.TreeSet;

/** The public face: every member of the document, and no other that is not private. */
final class FaceTest {
    private static final String[] METHODS = {
            "int append(int,int,int,int,int) IllegalStateException",
            "int truncate(int) IllegalArgumentException",
            "int load()",
            "int errorCode()",
            "int errorOffset()",
            "int minute()",
            "int hour()",
            "int levelOf(int) IndexOutOfBoundsException",
            "int failuresOf(int) IndexOutOfBoundsException",
            "int waitLeft(int) IndexOutOfBoundsException",
            "int totalWait(int) IndexOutOfBoundsException",
            "int waitIfWrong(int) IndexOutOfBoundsException",
            "boolean isBanned(int) IndexOutOfBoundsException",
            "int riddleOf(int) IndexOutOfBoundsException",
            "int tokenLeft(int) IndexOutOfBoundsException",
            "int doorOf(int) IndexOutOfBoundsException",
            "int rightAnswers(int) IndexOutOfBoundsException",
            "int wrongAnswers(int) IndexOutOfBoundsException",
            "int warpOf(int) IndexOutOfBoundsException",
            "int askedTimes(int) IndexOutOfBoundsException",
            "int solvedTimes(int) IndexOutOfBoundsException",
            "int riddleAt(int,int) IndexOutOfBoundsException NoSuchElementException",
            "int rankOf(int,int) IndexOutOfBoundsException",
            "int hardestRiddle()",
            "int tokenCount()",
            "int tokenAt(int) NoSuchElementException",
            "int waitingCount()",
            "int waitingAt(int) NoSuchElementException",
            "boolean isOpen(int) IndexOutOfBoundsException",
            "int hoursOpen(int) IndexOutOfBoundsException",
            "int opensIn(int) IndexOutOfBoundsException",
            "int closesIn(int) IndexOutOfBoundsException",
            "int insideOf(int) IndexOutOfBoundsException",
            "int roomLeft(int) IndexOutOfBoundsException",
            "int askRefusal(int) IndexOutOfBoundsException",
            "int enterRefusal(int,int) IndexOutOfBoundsException",
            "int bestDoor(int) IndexOutOfBoundsException",
            "int minutesUntilAsk(int) IndexOutOfBoundsException",
            "int minutesUntilEnter(int) IndexOutOfBoundsException",
            "int tokensAfter(int) IllegalArgumentException",
            "int insideAfter(int) IllegalArgumentException",
            "int sameRanks(int,int) IndexOutOfBoundsException",
            "int answersToTop(int) IndexOutOfBoundsException",
            "int fullestDoor()",
            "int waitOfFailure(int) IllegalArgumentException",
            "int shownOut()",
            "int waitDifference()",
            "int riddleDifference()",
            "float rightShare()",
            "double averageLevel()",
            "int ask(int) IndexOutOfBoundsException IllegalStateException",
            "int answer(int) IndexOutOfBoundsException IllegalArgumentException IllegalStateException",
            "int enter(int,int) IndexOutOfBoundsException IllegalStateException",
            "int leave(int) IndexOutOfBoundsException IllegalStateException",
            "int forgive(int) IndexOutOfBoundsException",
            "int setWarp(int,int) IndexOutOfBoundsException IllegalArgumentException",
            "int setHours(int,int,int) IndexOutOfBoundsException IllegalArgumentException",
            "int pass(int) IllegalArgumentException",
            "int save(int) IndexOutOfBoundsException",
            "int restore(int) IndexOutOfBoundsException IllegalStateException",
            "int undo() IllegalStateException",
            "int printRiddle(int) IndexOutOfBoundsException",
            "int printDoor(int) IndexOutOfBoundsException",
            "int outputByte(int) NoSuchElementException",
    };

    private FaceTest() {
    }

    static void run() {
        Check.same("the class is public and final", Modifier.toString(VegetableBouncer.class.getModifiers()),
                "public final");
        Check.same("methods", methods(), new TreeSet<>(Arrays.asList(METHODS)));
        Check.same("constructors", constructors(), Set.of("public ()"));
        Check.same("fields", fields(), Set.of("public static final int PARSE_ERROR"));
        Check.same("PARSE_ERROR", VegetableBouncer.PARSE_ERROR, -7);
    }

    private static Set<String> methods() {
        Set<String> found = new TreeSet<>();
        for (Method method : VegetableBouncer.class.getDeclaredMethods()) {
            if (isSeen(method)) {
                found.add(method.getReturnType().getSimpleName() + " " + method.getName() + "("
                        + names(method.getParameterTypes(), ",") + ")" + thrown(method));
            }
        }
        return found;
    }

    private static String thrown(Method method) {
        String names = names(method.getExceptionTypes(), " ");
        return names.isEmpty() ? "" : " " + names;
    }

    private static Set<String> constructors() {
        Set<String> found = new TreeSet<>();
        for (Constructor<?> constructor : VegetableBouncer.class.getDeclaredConstructors()) {
            if (isSeen(constructor)) {
                found.add(Modifier.toString(constructor.getModifiers()) + " ("
                        + names(constructor.getParameterTypes(), ",") + ")");
            }
        }
        return found;
    }

    private static Set<String> fields() {
        Set<String> found = new TreeSet<>();
        for (Field field : VegetableBouncer.class.getDeclaredFields()) {
            if (isSeen(field)) {
                found.add(Modifier.toString(field.getModifiers()) + " " + field.getType() + " " + field.getName());
            }
        }
        return found;
    }

    private static boolean isSeen(Member member) {
        return !Modifier.isPrivate(member.getModifiers()) && !member.isSynthetic();
    }

    private static String names(Class<?>[] types, String between) {
        StringBuilder names = new StringBuilder();
        for (Class<?> type : types) {
            names.append(names.length() == 0 ? "" : between).append(type.getSimpleName());
        }
        return names.toString();
    }
}
