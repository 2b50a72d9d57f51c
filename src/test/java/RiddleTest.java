import java.util.NoSuchElementException;
import java.util.function.IntConsumer;

/** Promises 20 to 25: the riddles and their order. */
final class RiddleTest {
    private RiddleTest() {
    }

    static void run() {
        warpAskedAndSolved();
        orderByDifferenceThenAskedThenNumber();
        orderByLevel();
        hardestRiddle();
        noSuchRiddle();
    }

    private static void warpAskedAndSolved() {
        VegetableBouncer x = new VegetableBouncer();
        Check.same("20: warps", x.warpOf(0) + " " + x.warpOf(1) + " " + x.warpOf(2) + " " + x.warpOf(3), "2 0 1 4");
        Check.same("21: asked", x.askedTimes(0) + " " + x.askedTimes(1) + " " + x.askedTimes(2), "0 4 0");
        Check.same("22: solved", x.solvedTimes(0) + " " + x.solvedTimes(1) + " " + x.solvedTimes(2), "0 1 0");
        x.ask(2);
        Check.same("21: asked again", x.askedTimes(1), 5);
        Bouncers.answer(x, 2, "leek");
        Check.same("22: not solved", x.solvedTimes(0) + " " + x.solvedTimes(1), "0 1");
        Bouncers.answer(x, 1, "beet");
        Check.same("22: solved again", x.solvedTimes(1) + " " + x.askedTimes(1), "2 5");
        x.setWarp(3, 9);
        Check.same("20: warp", x.warpOf(3), 9);
    }

    private static String order(VegetableBouncer x, int guest, int riddles) {
        StringBuilder order = new StringBuilder();
        for (int rank = 0; rank < riddles; rank++) {
            int riddle = x.riddleAt(guest, rank);
            order.append(riddle);
            Check.same("24: rank of riddle " + riddle, x.rankOf(guest, riddle), rank);
        }
        return order.toString();
    }

    private static void orderByDifferenceThenAskedThenNumber() {
        VegetableBouncer x = Bouncers.loaded("bouncer 1 9;riddle a 3;riddle b 1;riddle c 1;riddle d 1;"
                + "guest ann;guest bob;guest cid;");
        Check.same("23: by difference and number", order(x, 0, 4), "1230");
        Check.same("52: the first one", x.ask(0), 1);
        Check.same("23: by times asked", order(x, 0, 4), "2310");
        Check.same("52: the next one", x.ask(1), 2);
        Check.same("23: again", order(x, 2, 4), "3120");
        x.ask(2);
        Check.same("23: the same times", order(x, 2, 4), "1230");
        x.setWarp(0, 1);
        Check.same("23: the one not asked", order(x, 2, 4), "0123");
        x.setWarp(3, 0);
        Check.same("23: difference before times asked", order(x, 2, 4), "3012");
    }

    private static void orderByLevel() {
        VegetableBouncer x = new VegetableBouncer();
        Check.same("23: ann, level 1", order(x, 0, 4), "2013");
        Check.same("23: bob, level 0", order(x, 1, 4), "1203");
        VegetableBouncer y = Bouncers.loaded("bouncer 1 1;guest ann;riddle a 0;riddle b 2;riddle c 5;"
                + "ask ann;answer ann a;pass 1;");
        Check.same("23: the difference has no sign", order(y, 0, 3), "102");
        y.ask(0);
        Bouncers.answer(y, 0, "b");
        Check.same("23: level 2", order(y, 0, 3), "102");
        y.setWarp(0, 1);
        y.setWarp(1, 0);
        y.setWarp(2, 4);
        Check.same("23: level 2, warps 1, 0, 4", order(y, 0, 3), "021");
    }

    private static void hardestRiddle() {
        VegetableBouncer x = new VegetableBouncer();
        Check.same("25: at first", x.hardestRiddle(), 1);
        VegetableBouncer y = Bouncers.loaded("bouncer 1 1;guest ann;riddle a 0;riddle b 9;");
        Check.same("25: the smallest number", y.hardestRiddle(), 0);
        y.ask(0);
        Bouncers.answer(y, 0, "a");
        y.pass(1);
        Check.same("25: asked less solved", y.hardestRiddle(), 0);
        y.setWarp(1, 1);
        y.ask(0);
        Check.same("25: one that was not answered yet", y.riddleOf(0) + " " + y.hardestRiddle(), "1 1");
        Bouncers.answer(y, 0, "a");
        Check.same("25: one that was answered wrongly", y.hardestRiddle(), 1);
        y.pass(1);
        y.setWarp(0, 1);
        y.setWarp(1, 9);
        y.ask(0);
        Check.same("25: among two the first", y.riddleOf(0) + " " + y.hardestRiddle(), "0 0");
        Bouncers.answer(y, 0, "a");
        Check.same("25: a solved one does not count", y.hardestRiddle(), 1);
        Check.same("25: no riddles", Bouncers.loaded("bouncer 1 1;guest ann;").hardestRiddle(), -1);
    }

    private static void noSuchRiddle() {
        VegetableBouncer x = new VegetableBouncer();
        forWrongRiddles("20: warpOf", riddle -> x.warpOf(riddle));
        forWrongRiddles("21: askedTimes", riddle -> x.askedTimes(riddle));
        forWrongRiddles("22: solvedTimes", riddle -> x.solvedTimes(riddle));
        forWrongRiddles("24: rankOf", riddle -> x.rankOf(0, riddle));
        GuestTest.forWrongGuests("24: rankOf", guest -> x.rankOf(guest, 0));
        GuestTest.forWrongGuests("24: rankOf both wrong", guest -> x.rankOf(guest, 9));
        GuestTest.forWrongGuests("23: riddleAt", guest -> x.riddleAt(guest, 0));
        GuestTest.forWrongGuests("23: riddleAt both wrong", guest -> x.riddleAt(guest, 9));
        for (int rank : new int[] {-1, 4, 10, Integer.MIN_VALUE, Integer.MAX_VALUE}) {
            Check.refuses("23: rank " + rank, NoSuchElementException.class, () -> x.riddleAt(0, rank));
        }
        VegetableBouncer none = Bouncers.loaded("bouncer 1 1;guest ann;");
        Check.refuses("23: no riddles", NoSuchElementException.class, () -> none.riddleAt(0, 0));
        Check.noSuch("24: no riddles", () -> none.rankOf(0, 0));
    }

    /** For an object with four riddles. */
    static void forWrongRiddles(String what, IntConsumer call) {
        for (int riddle : new int[] {-1, 4, 9, 10, Integer.MIN_VALUE, Integer.MAX_VALUE}) {
            Check.noSuch(what + " of riddle " + riddle, () -> call.accept(riddle));
        }
    }
}
