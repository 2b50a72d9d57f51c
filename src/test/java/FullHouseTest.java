import java.util.NoSuchElementException;

/** Promises 9 to 64 with as many riddles, guests and doors as there can be. */
final class FullHouseTest {
    private static final String TEXT = Houses.FULL;

    private FullHouseTest() {
    }

    static void run() {
        allInside();
        allWithATokenOrWaiting();
        lastOnes();
        behindTheLast();
    }

    private static void answerAll(VegetableBouncer x, int from, boolean isRight) {
        for (int guest = from; guest < 8; guest++) {
            int riddle = x.ask(guest);
            Bouncers.answer(x, guest, isRight ? "abcdefghij".substring(riddle, riddle + 1) : "wrong");
        }
    }

    private static void allInside() {
        VegetableBouncer x = Bouncers.loaded(TEXT);
        answerAll(x, 0, true);
        Check.same("26: tokens", x.tokenCount() + " " + x.tokenAt(0) + " " + x.tokenAt(7), "8 0 7");
        Check.same("41: tokens", x.tokensAfter(8) + " " + x.tokensAfter(9), "8 0");
        for (int guest = 0; guest < 8; guest++) {
            Check.same("54: enter", x.enter(guest, 3), guest + 1);
        }
        Check.same("34: inside", x.insideOf(3) + " " + x.roomLeft(3) + " " + x.insideOf(0), "8 1 0");
        Check.same("45: fullest", x.fullestDoor(), 3);
        Check.same("42: inside", x.insideAfter(1440), 8);
        Check.same("64: names", x.printDoor(3) + " " + Bouncers.output(x), "15 a b c d e f g h");
        Check.same("39: never", x.minutesUntilAsk(7), -1);
        Check.same("58: all out", x.setHours(3, 5, 6) + " " + x.shownOut(), "8 8");
    }

    private static void allWithATokenOrWaiting() {
        VegetableBouncer x = Bouncers.loaded(TEXT);
        answerAll(x, 0, false);
        Check.same("28: waiting", x.waitingCount() + " " + x.waitingAt(0) + " " + x.waitingAt(7), "8 0 7");
        Check.same("48, 49: differences", x.waitDifference() + " " + x.riddleDifference(), "0 0");
        Check.same("50: none right", x.rightShare(), 0.0f);
        x.pass(2);
        Check.same("28: none", x.waitingCount(), 0);
        answerAll(x, 4, true);
        Check.same("50: four of twelve", x.rightShare(), 4.0f / 12.0f);
        Check.same("51: four of eight", x.averageLevel(), 0.5);
        Check.same("27: tokens", x.tokenCount() + " " + x.tokenAt(3), "4 7");
        Check.same("59: expired", x.pass(9), 4);
    }

    private static void lastOnes() {
        VegetableBouncer x = Bouncers.loaded(TEXT);
        Check.same("23: the last rank", x.riddleAt(7, 9) + " " + x.rankOf(7, 9), "9 9");
        Check.same("43: ranks", x.sameRanks(0, 7), 10);
        x.setWarp(9, 3);
        Check.same("57: the last riddle", x.warpOf(9) + " " + x.printRiddle(9) + " " + Bouncers.output(x), "3 1 m");
        Check.same("25: hardest", x.hardestRiddle(), 0);
        x.ask(7);
        Bouncers.answer(x, 7, "a");
        Check.same("38: the first of four", x.bestDoor(7) + " " + x.minutesUntilEnter(7), "0 0");
        Check.same("54: the last door", x.enter(7, 3) + " " + x.doorOf(7) + " " + x.leave(7), "1 3 3");
        Check.same("56: the last guest", x.forgive(7), 0);
        Check.same("62: undo", x.undo() + " " + x.undo() + " " + x.doorOf(7), "5 4 3");
    }

    private static void behindTheLast() {
        VegetableBouncer x = Bouncers.loaded(TEXT);
        Check.noSuch("9: guest 8", () -> x.levelOf(8));
        Check.noSuch("20: riddle 10", () -> x.warpOf(10));
        Check.noSuch("30: door 4", () -> x.isOpen(4));
        Check.refuses("23: rank 10", NoSuchElementException.class, () -> x.riddleAt(0, 10));
        answerAll(x, 0, true);
        Check.refuses("27: rank 8", NoSuchElementException.class, () -> x.tokenAt(8));
        VegetableBouncer y = Bouncers.loaded(TEXT);
        answerAll(y, 0, false);
        Check.refuses("29: rank 8", NoSuchElementException.class, () -> y.waitingAt(8));
    }
}
