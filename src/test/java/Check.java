/** Counts the answers that are due and those that are not, and prints the latter. */
final class Check {
    private static int passed = 0;
    private static int failed = 0;

    private Check() {
    }

    static void same(String what, Object got, Object due) {
        if (due.equals(got)) {
            passed++;
            return;
        }
        failed++;
        System.out.println(what + " answered " + got + ", due is " + due);
    }

    static void refuses(String what, Class<? extends RuntimeException> due, Runnable call) {
        same(what, nameOfThrown(call), due.getSimpleName());
    }

    private static String nameOfThrown(Runnable call) {
        try {
            call.run();
            return "nothing thrown";
        } catch (RuntimeException thrown) {
            return thrown.getClass().getSimpleName();
        }
    }

    static void noSuch(String what, Runnable call) {
        refuses(what, IndexOutOfBoundsException.class, call);
    }

    static boolean finish() {
        System.out.println(passed + " passed, " + failed + " failed");
        return failed == 0 && passed > 0;
    }
}
