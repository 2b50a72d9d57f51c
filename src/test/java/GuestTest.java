import java.util.function.IntConsumer;

/** Promises 7 to 19: time and the questions about one guest. */
final class GuestTest {
    private static final String TEXT = "bouncer 7 50;riddle leek 0;guest ann;guest bob;door west 0 0 3;";

    private GuestTest() {
    }

    static void run() {
        minuteAndHour();
        theFirstGuests();
        wrongAnswersDoubleTheWait();
        bannedAfterTenFailures();
        rightAnswersRaiseTheLevel();
        riddleTokenAndDoor();
        noSuchGuest();
    }

    private static void minuteAndHour() {
        VegetableBouncer x = Bouncers.loaded("bouncer 1 1;");
        Check.same("7: minute at first", x.minute(), 0);
        Check.same("8: hour at first", x.hour(), 0);
        x.pass(59);
        Check.same("8: minute 59", x.hour(), 0);
        x.pass(1);
        Check.same("7: minute", x.minute(), 60);
        Check.same("8: minute 60", x.hour(), 1);
        x.pass(999);
        x.pass(380);
        Check.same("8: minute 1439", x.minute() + " " + x.hour(), "1439 23");
        x.pass(1);
        Check.same("8: minute 1440", x.minute() + " " + x.hour(), "1440 0");
        x.pass(999);
        x.pass(999);
        Check.same("8: minute 3438", x.minute() + " " + x.hour(), "3438 9");
    }

    private static void theFirstGuests() {
        VegetableBouncer x = new VegetableBouncer();
        Check.same("10: failures", x.failuresOf(0) + " " + x.failuresOf(1) + " " + x.failuresOf(2), "0 1 1");
        Check.same("11: wait", x.waitLeft(0) + " " + x.waitLeft(1) + " " + x.waitLeft(2), "0 0 0");
        Check.same("12: total", x.totalWait(0) + " " + x.totalWait(1) + " " + x.totalWait(2), "0 5 5");
        Check.same("13: if wrong", x.waitIfWrong(0) + " " + x.waitIfWrong(1) + " " + x.waitIfWrong(2), "5 10 10");
        Check.same("14: banned", x.isBanned(0) || x.isBanned(1) || x.isBanned(2), false);
        Check.same("15: riddle", x.riddleOf(0) + " " + x.riddleOf(1) + " " + x.riddleOf(2), "-1 1 -1");
        Check.same("16: token", x.tokenLeft(0) + " " + x.tokenLeft(1) + " " + x.tokenLeft(2), "0 0 0");
        Check.same("17: door", x.doorOf(0) + " " + x.doorOf(1) + " " + x.doorOf(2), "0 -1 -1");
        Check.same("18: right", x.rightAnswers(0) + " " + x.rightAnswers(1) + " " + x.rightAnswers(2), "1 0 0");
        Check.same("19: wrong", x.wrongAnswers(0) + " " + x.wrongAnswers(1) + " " + x.wrongAnswers(2), "0 1 1");
    }

    private static void wrongAnswersDoubleTheWait() {
        VegetableBouncer x = Bouncers.loaded(TEXT);
        int[] waits = {7, 14, 28, 56};
        int sum = 0;
        for (int failures = 1; failures <= waits.length; failures++) {
            int wait = waits[failures - 1];
            Check.same("13: before failure " + failures, x.waitIfWrong(0), wait);
            x.ask(0);
            Check.same("13: with a riddle", x.waitIfWrong(0), wait);
            Check.same("53: wrong answer", Bouncers.answer(x, 0, "beet"), wait);
            sum += wait;
            Check.same("10: failures", x.failuresOf(0), failures);
            Check.same("11: wait", x.waitLeft(0), wait);
            Check.same("12: total", x.totalWait(0), sum);
            Check.same("19: wrong", x.wrongAnswers(0), failures);
            x.pass(wait - 1);
            Check.same("11: last minute", x.waitLeft(0), 1);
            Check.same("36: still waits", x.askRefusal(0), 3);
            x.pass(1);
            Check.same("11: waits no more", x.waitLeft(0) + " " + x.askRefusal(0), "0 0");
        }
        x.pass(1);
        Check.same("11: long past", x.waitLeft(0), 0);
        Check.same("12: the total stays", x.totalWait(0), sum);
        Check.same("10: the other guest", x.failuresOf(1) + " " + x.totalWait(1) + " " + x.waitLeft(1), "0 0 0");
        x.ask(0);
        Bouncers.answer(x, 0, "leek");
        Check.same("10: after a right answer", x.failuresOf(0), 0);
        Check.same("12: after a right answer", x.totalWait(0), 0);
        Check.same("13: after a right answer", x.waitIfWrong(0), 7);
        Check.same("19: wrong answers stay", x.wrongAnswers(0) + " " + x.rightAnswers(0), "4 1");
    }

    static VegetableBouncer withFailures(String text, int failures) {
        VegetableBouncer x = Bouncers.loaded(text);
        for (int failure = 1; failure <= failures; failure++) {
            x.ask(0);
            Bouncers.answer(x, 0, "wrong");
            for (int left = x.waitLeft(0); failure < failures && left > 0; left = x.waitLeft(0)) {
                x.pass(Math.min(left, 999));
            }
        }
        return x;
    }

    private static void bannedAfterTenFailures() {
        VegetableBouncer nine = withFailures(TEXT, 9);
        Check.same("14: nine failures", nine.isBanned(0) + " " + nine.failuresOf(0), "false 9");
        Check.same("11: ninth wait", nine.waitLeft(0), 7 * 256);
        Check.same("13: the tenth", nine.waitIfWrong(0), 7 * 512);
        VegetableBouncer ten = withFailures(TEXT, 10);
        Check.same("14: ten failures", ten.isBanned(0) + " " + ten.failuresOf(0), "true 10");
        Check.same("14: the other", ten.isBanned(1), false);
        Check.same("11: tenth wait", ten.waitLeft(0), 7 * 512);
        Check.same("12: total", ten.totalWait(0), 7 * 1023);
        Check.same("13: banned", ten.waitIfWrong(0), 0);
        ten.forgive(0);
        Check.same("14: forgiven", ten.isBanned(0) + " " + ten.waitIfWrong(0), "false 7");
    }

    private static void rightAnswersRaiseTheLevel() {
        VegetableBouncer x = Bouncers.loaded(TEXT);
        for (int answers = 1; answers <= 11; answers++) {
            x.ask(1);
            Check.same("53: right answer", Bouncers.answer(x, 1, "leek"), 0);
            Check.same("9: level", x.levelOf(1), Math.min(answers, 9));
            Check.same("18: right", x.rightAnswers(1), answers);
            Check.same("16: token", x.tokenLeft(1), 50);
            x.pass(50);
        }
        Check.same("9: the other guest", x.levelOf(0) + " " + x.rightAnswers(0), "0 0");
        x.ask(1);
        Bouncers.answer(x, 1, "x");
        Check.same("9: a wrong answer keeps the level", x.levelOf(1), 9);
        Check.same("18: a wrong answer is none", x.rightAnswers(1), 11);
    }

    private static void riddleTokenAndDoor() {
        VegetableBouncer x = Bouncers.loaded(TEXT);
        Check.same("15: none", x.riddleOf(1), -1);
        x.ask(1);
        Check.same("15: riddle", x.riddleOf(1) + " " + x.riddleOf(0), "0 -1");
        Check.same("16: none", x.tokenLeft(1), 0);
        Bouncers.answer(x, 1, "leek");
        Check.same("15: answered", x.riddleOf(1), -1);
        x.pass(49);
        Check.same("16: last minute", x.tokenLeft(1) + " " + x.tokenLeft(0), "1 0");
        Check.same("17: outside", x.doorOf(1), -1);
        x.enter(1, 0);
        Check.same("16: given away", x.tokenLeft(1), 0);
        Check.same("17: inside", x.doorOf(1) + " " + x.doorOf(0), "0 -1");
        x.leave(1);
        x.ask(1);
        Bouncers.answer(x, 1, "beet");
        Check.same("15: wrongly answered", x.riddleOf(1), -1);
    }

    private static void noSuchGuest() {
        VegetableBouncer x = new VegetableBouncer();
        forWrongGuests("9: levelOf", guest -> x.levelOf(guest));
        forWrongGuests("10: failuresOf", guest -> x.failuresOf(guest));
        forWrongGuests("11: waitLeft", guest -> x.waitLeft(guest));
        forWrongGuests("12: totalWait", guest -> x.totalWait(guest));
        forWrongGuests("13: waitIfWrong", guest -> x.waitIfWrong(guest));
        forWrongGuests("14: isBanned", guest -> x.isBanned(guest));
        forWrongGuests("15: riddleOf", guest -> x.riddleOf(guest));
        forWrongGuests("16: tokenLeft", guest -> x.tokenLeft(guest));
        forWrongGuests("17: doorOf", guest -> x.doorOf(guest));
        forWrongGuests("18: rightAnswers", guest -> x.rightAnswers(guest));
        forWrongGuests("19: wrongAnswers", guest -> x.wrongAnswers(guest));
    }

    /** For an object with three guests. */
    static void forWrongGuests(String what, IntConsumer call) {
        for (int guest : new int[] {-1, 3, 7, 8, Integer.MIN_VALUE, Integer.MAX_VALUE}) {
            Check.noSuch(what + " of guest " + guest, () -> call.accept(guest));
        }
    }
}
