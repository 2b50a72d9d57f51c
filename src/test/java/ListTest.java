import java.util.NoSuchElementException;

/** Promises 26 to 29: the guests with a token and the guests who wait. */
final class ListTest {
    private static final String TEXT = "bouncer 4 20;riddle leek 0;guest ann;guest bob;guest cid;guest dan;";

    private ListTest() {
    }

    static void run() {
        tokensByMinuteThenNumber();
        tokensGoAway();
        waitsByMinuteThenNumber();
        waitsByFailures();
        noSuchRank();
    }

    private static void give(VegetableBouncer x, int guest, String word) {
        x.ask(guest);
        Bouncers.answer(x, guest, word);
    }

    private static String tokens(VegetableBouncer x) {
        StringBuilder order = new StringBuilder();
        for (int rank = 0; rank < x.tokenCount(); rank++) {
            order.append(x.tokenAt(rank));
        }
        Check.refuses("27: behind the last", NoSuchElementException.class, () -> x.tokenAt(order.length()));
        return order.toString();
    }

    private static String waits(VegetableBouncer x) {
        StringBuilder order = new StringBuilder();
        for (int rank = 0; rank < x.waitingCount(); rank++) {
            order.append(x.waitingAt(rank));
        }
        Check.refuses("29: behind the last", NoSuchElementException.class, () -> x.waitingAt(order.length()));
        return order.toString();
    }

    private static void tokensByMinuteThenNumber() {
        VegetableBouncer x = Bouncers.loaded(TEXT);
        Check.same("26: none", x.tokenCount(), 0);
        give(x, 2, "leek");
        Check.same("26: one", x.tokenCount() + " " + tokens(x), "1 2");
        x.pass(1);
        give(x, 3, "leek");
        give(x, 0, "leek");
        give(x, 1, "beet");
        Check.same("26: three", x.tokenCount() + " " + tokens(x), "3 203");
    }

    private static void tokensGoAway() {
        VegetableBouncer x = Bouncers.loaded(TEXT + "door west 0 0 5;");
        give(x, 0, "leek");
        give(x, 1, "leek");
        x.pass(3);
        give(x, 2, "leek");
        x.enter(1, 0);
        Check.same("26: given away", tokens(x), "02");
        x.pass(16);
        Check.same("26: the last minute", tokens(x), "02");
        x.pass(1);
        Check.same("26: expired", tokens(x), "2");
        x.pass(3);
        Check.same("26: all gone", x.tokenCount() + tokens(x), "0");
    }

    private static void waitsByMinuteThenNumber() {
        VegetableBouncer x = Bouncers.loaded(TEXT);
        Check.same("28: none", x.waitingCount(), 0);
        give(x, 2, "x");
        x.pass(1);
        give(x, 3, "x");
        give(x, 1, "x");
        give(x, 0, "leek");
        Check.same("28: three", x.waitingCount() + " " + waits(x), "3 213");
        x.pass(2);
        Check.same("28: the last minute", waits(x), "213");
        x.pass(1);
        Check.same("28: one less", x.waitingCount() + " " + waits(x), "2 13");
        x.forgive(1);
        Check.same("28: forgiven", waits(x), "3");
        x.pass(1);
        Check.same("28: all gone", x.waitingCount() + waits(x), "0");
    }

    private static void waitsByFailures() {
        VegetableBouncer x = Bouncers.loaded(TEXT);
        give(x, 3, "x");
        x.pass(4);
        give(x, 1, "x");
        x.pass(4);
        give(x, 3, "x");
        x.pass(4);
        give(x, 0, "x");
        give(x, 2, "x");
        Check.same("29: more failures come first", x.waitLeft(3) + " " + x.waitLeft(0) + " " + waits(x), "4 4 302");
        x.forgive(0);
        give(x, 1, "x");
        Check.same("29: the minute comes before failures", x.failuresOf(1) + " " + waits(x), "2 321");
    }

    private static void noSuchRank() {
        VegetableBouncer x = Bouncers.loaded(TEXT);
        give(x, 0, "leek");
        give(x, 1, "x");
        for (int rank : new int[] {-1, 1, 2, 8, Integer.MIN_VALUE, Integer.MAX_VALUE}) {
            Check.refuses("27: rank " + rank, NoSuchElementException.class, () -> x.tokenAt(rank));
            Check.refuses("29: rank " + rank, NoSuchElementException.class, () -> x.waitingAt(rank));
        }
        VegetableBouncer none = Bouncers.loaded("bouncer 1 1;");
        Check.refuses("27: no guests", NoSuchElementException.class, () -> none.tokenAt(0));
        Check.refuses("29: no guests", NoSuchElementException.class, () -> none.waitingAt(0));
        Check.same("26, 28: no guests", none.tokenCount() + " " + none.waitingCount(), "0 0");
    }
}
