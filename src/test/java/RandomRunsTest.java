import java.lang.reflect.InvocationTargetException;
import java.lang.reflect.Method;
import java.lang.reflect.Modifier;
import java.util.ArrayList;
import java.util.Arrays;
import java.util.Comparator;
import java.util.List;
import java.util.Set;

/** Promises 1 to 65: runs of the same calls on a VegetableBouncer and a SlowBouncer answer the same. */
final class RandomRunsTest {
    private static final int RUNS = 400;
    /** An object is used for at most 512 calls. */
    private static final int CALLS = 512;
    /** Loading a text and answering take several calls, at most 35. */
    private static final int LONG_ACTION = 35;
    private static final Set<String> CHANGES = Set.of("ask", "enter", "leave", "forgive", "setWarp", "setHours", "pass",
            "restore", "undo", "save");
    private static final Set<String> FORECASTS = Set.of("tokensAfter", "insideAfter");
    private static final String[] WORDS = {"leek", "beet", "pea", "abcdefghi", "x", "le3k", "", "kale ", "zzzzzzzz"};

    private final NumberRow row;
    private final List<Method> questions = methods(false);
    private final List<Method> changes = methods(true);
    private final VegetableBouncer bouncer = new VegetableBouncer();
    private final SlowBouncer slow = new SlowBouncer();
    private final List<String> calls = new ArrayList<>();
    private boolean isSame = true;

    private RandomRunsTest(int seed) {
        row = new NumberRow(seed);
    }

    static void run() {
        for (int seed = 1; seed <= RUNS; seed++) {
            RandomRunsTest test = new RandomRunsTest(seed);
            test.callUntilTheEnd();
            Check.same("run " + seed + ": " + test.lastCalls() + " as SlowBouncer", test.isSame, true);
        }
    }

    private static List<Method> methods(boolean areChanges) {
        List<Method> methods = new ArrayList<>();
        for (Method method : VegetableBouncer.class.getDeclaredMethods()) {
            String name = method.getName();
            boolean isInput = name.equals("append") || name.equals("load") || name.equals("answer");
            if (Modifier.isPublic(method.getModifiers()) && !isInput && CHANGES.contains(name) == areChanges) {
                methods.add(method);
            }
        }
        methods.sort(Comparator.comparing(Method::getName));
        return methods;
    }

    private void callUntilTheEnd() {
        if (row.below(4) > 0) {
            loadText();
        }
        while (isSame && calls.size() < CALLS) {
            act();
        }
    }

    private void act() {
        int choice = calls.size() + LONG_ACTION <= CALLS ? row.below(100) : 12 + row.below(88);
        if (choice < 1) {
            loadText();
        } else if (choice < 12) {
            answer();
        } else if (choice < 45) {
            callOne(changes.get(row.below(changes.size())));
        } else {
            callOne(questions.get(row.below(questions.size())));
        }
    }

    private void loadText() {
        type(RandomTexts.text(row));
        call("load");
        call("errorCode");
        call("errorOffset");
    }

    private void answer() {
        int guest = row.below(row.below(8) == 0 ? 9 : 3);
        type(row.below(5) < 3 ? slow.vegetableFor(guest) : WORDS[row.below(WORDS.length)]);
        call("answer", guest);
        if (row.below(2) == 0) {
            call("enter", guest, row.below(3));
        }
    }

    private void type(String text) {
        call("truncate", 0);
        for (int from = 0; from < text.length(); from += 20) {
            Integer[] fours = new Integer[5];
            for (int part = 0; part < 5; part++) {
                fours[part] = four(text, from + 4 * part);
            }
            call("append", fours);
        }
        call("truncate", text.length());
    }

    private static int four(String text, int from) {
        int value = 0;
        for (int index = from; index < from + 4; index++) {
            value = value * 256 + (index < text.length() ? text.charAt(index) : 255);
        }
        return value;
    }

    private void callOne(Method method) {
        Integer[] arguments = new Integer[method.getParameterCount()];
        for (int index = 0; index < arguments.length; index++) {
            arguments[index] = argument(method.getName());
        }
        call(method.getName(), arguments);
    }

    private int argument(String name) {
        if (row.below(60) == 0) {
            return new int[] {Integer.MIN_VALUE, Integer.MAX_VALUE, -1, 24, 999, 1000, 1440, 1441}[row.below(8)];
        }
        if (name.equals("pass")) {
            return row.below(4) == 0 ? row.below(1000) : row.below(40);
        }
        if (FORECASTS.contains(name)) {
            return row.below(3) == 0 ? row.below(1441) : row.below(100);
        }
        if (name.equals("setHours")) {
            return row.below(3) == 0 ? row.below(24) : row.below(4);
        }
        return row.below(8) == 0 ? row.below(13) - 1 : row.below(3);
    }

    private void call(String name, Integer... arguments) {
        String answered = answerOf(bouncer, name, arguments);
        String due = answerOf(slow, name, arguments);
        calls.add(name + List.of(arguments) + " " + answered + (answered.equals(due) ? "" : " (due " + due + ")"));
        isSame = isSame && answered.equals(due);
    }

    private static String answerOf(Object object, String name, Integer[] arguments) {
        Class<?>[] types = new Class<?>[arguments.length];
        Arrays.fill(types, int.class);
        try {
            return String.valueOf(object.getClass().getMethod(name, types).invoke(object, (Object[]) arguments));
        } catch (InvocationTargetException thrown) {
            return thrown.getCause().getClass().getSimpleName();
        } catch (ReflectiveOperationException missing) {
            return missing.toString();
        }
    }

    private String lastCalls() {
        return isSame ? "all calls" : String.join("; ", calls.subList(Math.max(0, calls.size() - 40), calls.size()));
    }
}
