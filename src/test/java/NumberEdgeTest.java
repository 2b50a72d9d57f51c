import java.util.LinkedHashMap;
import java.util.Map;
import java.util.function.BiConsumer;
import java.util.function.BiFunction;

/**
 * "Throws IndexOutOfBoundsException if there is no such guest", riddle or door: the last number that there is and the
 * first that there is not, with none of them, with some and with as many as there can be.
 */
final class NumberEdgeTest {
    private static final int[] FAR = {Integer.MIN_VALUE, -2, 11, 100, Integer.MAX_VALUE};

    private NumberEdgeTest() {
    }

    static void run() {
        lastGuest();
        lastRiddle();
        lastDoor();
        guestsThatAreNot();
        riddlesThatAreNot();
        doorsThatAreNot();
        firstOfTwoErrors();
    }

    private static final String LAST = Houses.FULL + "ask h;answer h x;pass 2;ask h;answer h b;pass 1;";

    private static void told(int promise, Object got, Object due) {
        Check.same(promise + ": the last number", got, due);
    }

    /** Guest 7 of eight has a level, a token and two answers; one riddle was asked for each. */
    private static void lastGuest() {
        VegetableBouncer x = Bouncers.loaded(LAST);
        told(9, x.levelOf(7), 1);
        told(10, x.failuresOf(7), 0);
        told(11, x.waitLeft(7), 0);
        told(12, x.totalWait(7), 0);
        told(13, x.waitIfWrong(7), 2);
        told(14, x.isBanned(7), false);
        told(15, x.riddleOf(7), -1);
        told(16, x.tokenLeft(7), 8);
        told(17, x.doorOf(7), -1);
        told(18, x.rightAnswers(7), 1);
        told(19, x.wrongAnswers(7), 1);
        told(23, x.riddleAt(7, 0) + " " + x.riddleAt(7, 9), "2 1");
        told(24, x.rankOf(7, 0), 8);
        told(36, x.askRefusal(7), 4);
        told(37, x.enterRefusal(7, 0), 0);
        told(38, x.bestDoor(7), 0);
        told(39, x.minutesUntilAsk(7), 8);
        told(40, x.minutesUntilEnter(7), 0);
        told(43, x.sameRanks(7, 6) + " " + x.sameRanks(6, 7), "10 10");
        told(44, x.answersToTop(7), 8);
        told(54, x.enter(7, 2), 1);
        told(55, x.leave(7), 2);
        told(52, x.ask(7), 2);
        told(53, Bouncers.answer(x, 7, "x"), 2);
        told(56, x.forgive(7), 1);
    }

    /** Riddle 9 of ten. */
    private static void lastRiddle() {
        VegetableBouncer x = Bouncers.loaded(LAST + "warp j 8;");
        told(20, x.warpOf(9), 8);
        told(21, x.askedTimes(9), 0);
        told(22, x.solvedTimes(9), 0);
        told(24, x.rankOf(0, 9), 9);
        told(57, x.setWarp(9, 1), 8);
        told(52, x.ask(0), 2);
        x.enter(7, 0);
        x.leave(7);
        told(52, x.ask(7), 9);
        told(15, x.riddleOf(7), 9);
        told(53, Bouncers.answer(x, 7, "j"), 0);
        told(21, x.askedTimes(9), 1);
        told(22, x.solvedTimes(9), 1);
        told(63, x.printRiddle(9) + Told.output(x), "1k");
    }

    /** Door 3 of four. */
    private static void lastDoor() {
        VegetableBouncer x = Bouncers.loaded(LAST + "hours l 0 5;");
        told(30, x.isOpen(3), true);
        told(31, x.hoursOpen(3), 5);
        told(32, x.opensIn(3), 0);
        told(33, x.closesIn(3), 297);
        told(34, x.insideOf(3), 0);
        told(35, x.roomLeft(3), 9);
        told(37, x.enterRefusal(7, 3), 0);
        told(54, x.enter(7, 3), 1);
        told(17, x.doorOf(7), 3);
        told(45, x.fullestDoor(), 3);
        told(64, x.printDoor(3) + Told.output(x), "1h");
        told(58, x.setHours(3, 1, 0), 1);
        told(32, x.opensIn(3), 57);
    }

    private static Map<String, BiConsumer<VegetableBouncer, Integer>> guestCalls() {
        Map<String, BiConsumer<VegetableBouncer, Integer>> calls = new LinkedHashMap<>();
        calls.put("9: levelOf", (x, guest) -> x.levelOf(guest));
        calls.put("10: failuresOf", (x, guest) -> x.failuresOf(guest));
        calls.put("11: waitLeft", (x, guest) -> x.waitLeft(guest));
        calls.put("12: totalWait", (x, guest) -> x.totalWait(guest));
        calls.put("13: waitIfWrong", (x, guest) -> x.waitIfWrong(guest));
        calls.put("14: isBanned", (x, guest) -> x.isBanned(guest));
        calls.put("15: riddleOf", (x, guest) -> x.riddleOf(guest));
        calls.put("16: tokenLeft", (x, guest) -> x.tokenLeft(guest));
        calls.put("17: doorOf", (x, guest) -> x.doorOf(guest));
        calls.put("18: rightAnswers", (x, guest) -> x.rightAnswers(guest));
        calls.put("19: wrongAnswers", (x, guest) -> x.wrongAnswers(guest));
        calls.put("23: riddleAt", (x, guest) -> x.riddleAt(guest, 0));
        calls.put("24: rankOf", (x, guest) -> x.rankOf(guest, 0));
        calls.put("36: askRefusal", (x, guest) -> x.askRefusal(guest));
        calls.put("37: enterRefusal", (x, guest) -> x.enterRefusal(guest, 0));
        calls.put("38: bestDoor", (x, guest) -> x.bestDoor(guest));
        calls.put("39: minutesUntilAsk", (x, guest) -> x.minutesUntilAsk(guest));
        calls.put("40: minutesUntilEnter", (x, guest) -> x.minutesUntilEnter(guest));
        calls.put("43: sameRanks", (x, guest) -> x.sameRanks(guest, 0));
        calls.put("43: sameRanks, other", (x, guest) -> x.sameRanks(0, guest));
        calls.put("43: sameRanks, both", (x, guest) -> x.sameRanks(guest, guest));
        calls.put("44: answersToTop", (x, guest) -> x.answersToTop(guest));
        calls.put("52: ask", (x, guest) -> x.ask(guest));
        calls.put("53: answer", (x, guest) -> x.answer(guest));
        calls.put("54: enter", (x, guest) -> x.enter(guest, 0));
        calls.put("55: leave", (x, guest) -> x.leave(guest));
        calls.put("56: forgive", (x, guest) -> x.forgive(guest));
        return calls;
    }

    private static Map<String, BiConsumer<VegetableBouncer, Integer>> riddleCalls() {
        Map<String, BiConsumer<VegetableBouncer, Integer>> calls = new LinkedHashMap<>();
        calls.put("20: warpOf", (x, riddle) -> x.warpOf(riddle));
        calls.put("21: askedTimes", (x, riddle) -> x.askedTimes(riddle));
        calls.put("22: solvedTimes", (x, riddle) -> x.solvedTimes(riddle));
        calls.put("24: rankOf", (x, riddle) -> x.rankOf(0, riddle));
        calls.put("57: setWarp", (x, riddle) -> x.setWarp(riddle, 5));
        calls.put("63: printRiddle", (x, riddle) -> x.printRiddle(riddle));
        return calls;
    }

    private static Map<String, BiConsumer<VegetableBouncer, Integer>> doorCalls() {
        Map<String, BiConsumer<VegetableBouncer, Integer>> calls = new LinkedHashMap<>();
        calls.put("30: isOpen", (x, door) -> x.isOpen(door));
        calls.put("31: hoursOpen", (x, door) -> x.hoursOpen(door));
        calls.put("32: opensIn", (x, door) -> x.opensIn(door));
        calls.put("33: closesIn", (x, door) -> x.closesIn(door));
        calls.put("34: insideOf", (x, door) -> x.insideOf(door));
        calls.put("35: roomLeft", (x, door) -> x.roomLeft(door));
        calls.put("37: enterRefusal", (x, door) -> x.enterRefusal(0, door));
        calls.put("54: enter", (x, door) -> x.enter(0, door));
        calls.put("58: setHours", (x, door) -> x.setHours(door, 5, 6));
        calls.put("64: printDoor", (x, door) -> x.printDoor(door));
        return calls;
    }

    private static void refused(Map<String, BiConsumer<VegetableBouncer, Integer>> calls, String text, int count) {
        for (String call : calls.keySet()) {
            for (int number : new int[] {-1, count}) {
                Unchanged.refusedNumber(call + "(" + number + ") of " + count, () -> Houses.dressed(text),
                        x -> calls.get(call).accept(x, number));
            }
            VegetableBouncer y = Bouncers.loaded(text);
            for (int number : FAR) {
                Check.noSuch(call + "(" + number + ") of " + count, () -> calls.get(call).accept(y, number));
            }
        }
    }

    private static void guestsThatAreNot() {
        refused(guestCalls(), Houses.EMPTY, 0);
        refused(guestCalls(), "bouncer 1 9;riddle a 0;door b 0 0 1;", 0);
        refused(guestCalls(), "bouncer 1 9;riddle a 0;door b 0 0 1;guest c;", 1);
        refused(guestCalls(), LAST, 8);
    }

    private static void riddlesThatAreNot() {
        refused(riddleCalls(), Houses.EMPTY, 0);
        refused(riddleCalls(), "bouncer 1 9;guest a;door b 0 0 1;", 0);
        refused(riddleCalls(), "bouncer 1 9;guest a;door b 0 0 1;riddle c 0;", 1);
        refused(riddleCalls(), LAST, 10);
    }

    private static void doorsThatAreNot() {
        refused(doorCalls(), Houses.EMPTY, 0);
        refused(doorCalls(), "bouncer 1 9;guest a;riddle b 0;", 0);
        refused(doorCalls(), "bouncer 1 9;guest a;riddle b 0;door c 0 0 1;", 1);
        refused(doorCalls(), LAST, 4);
    }

    private static void first(String what, BiFunction<VegetableBouncer, Integer, Integer> call) {
        for (int number : new int[] {-1, 10}) {
            Unchanged.refusedNumber(what + " with " + number, Houses::busy, x -> call.apply(x, number));
        }
    }

    /** The document tells the missing number first; so it comes first if the call has a second error. */
    private static void firstOfTwoErrors() {
        first("23: rank too", (x, number) -> x.riddleAt(number, -1));
        first("24: riddle too", (x, number) -> x.rankOf(number, number));
        first("37: door too", (x, number) -> x.enterRefusal(number, number));
        first("53: no answer in the buffer", (x, number) -> {
            x.truncate(4);
            return x.answer(number);
        });
        first("54: door too", (x, number) -> x.enter(number, number));
        first("54: the door of a guest without a token", (x, number) -> x.enter(1, number));
        first("54: the door of a guest inside", (x, number) -> x.enter(0, number));
        first("54: a guest who is not", (x, number) -> x.enter(number, 0));
        first("57: warp too", (x, number) -> x.setWarp(number, -1));
        first("57: warp too", (x, number) -> x.setWarp(number, 10));
        first("58: opens too", (x, number) -> x.setHours(number, 24, 5));
        first("58: closes too", (x, number) -> x.setHours(number, 5, -1));
        Unchanged.refusedNumber("53: an empty buffer", () -> Houses.busyWith(""), x -> x.answer(3));
        Unchanged.refusedArgument("53: an empty buffer and no riddle", () -> Houses.busyWith(""), x -> x.answer(0));
        Unchanged.refusedArgument("53: nine letters and no riddle", () -> Houses.busyWith("beetbeetb"),
                x -> x.answer(0));
    }
}
