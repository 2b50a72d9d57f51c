/** Promises 52 to 59: the changes. */
final class ChangeTest {
    private static final String TEXT = "bouncer 4 20;riddle leek 1;riddle pea 0;guest ann;guest bob;guest cid;"
            + "door west 0 2 2;door east 1 3 1;";

    private ChangeTest() {
    }

    static void run() {
        ask();
        answerRightAndWrong();
        answerRefused();
        enter();
        leave();
        forgive();
        setWarp();
        setHours();
        setHoursRefused();
        passExpiresTokens();
        passShowsOut();
        passRefused();
        refusedCallsChangeNothing();
    }

    private static void token(VegetableBouncer x, int guest) {
        int riddle = x.ask(guest);
        Bouncers.answer(x, guest, riddle == 0 ? "leek" : "pea");
    }

    private static void ask() {
        VegetableBouncer x = Bouncers.loaded(TEXT);
        Check.same("52: the first riddle", x.ask(0), 1);
        Check.same("52: the guest has it", x.riddleOf(0) + " " + x.askedTimes(1) + " " + x.askedTimes(0), "1 1 0");
        Check.refuses("52: has a riddle", IllegalStateException.class, () -> x.ask(0));
        Bouncers.answer(x, 0, "pea");
        Check.refuses("52: has a token", IllegalStateException.class, () -> x.ask(0));
        x.enter(0, 0);
        Check.refuses("52: inside", IllegalStateException.class, () -> x.ask(0));
        x.leave(0);
        Check.same("52: level 1", x.ask(0), 0);
        Bouncers.answer(x, 0, "pea");
        Check.refuses("52: waits", IllegalStateException.class, () -> x.ask(0));
        Check.same("52: asked", x.askedTimes(0) + " " + x.askedTimes(1), "1 1");
        VegetableBouncer none = Bouncers.loaded("bouncer 1 1;guest a;guest b;guest c;");
        Check.refuses("52: no riddles", IllegalStateException.class, () -> none.ask(0));
        GuestTest.forWrongGuests("52: ask", guest -> x.ask(guest));
        GuestTest.forWrongGuests("52: ask without riddles", guest -> none.ask(guest));
    }

    private static void answerRightAndWrong() {
        VegetableBouncer x = Bouncers.loaded(TEXT);
        x.ask(0);
        x.ask(1);
        Check.same("53: right", Bouncers.answer(x, 0, "pea"), 0);
        Check.refuses("53: the buffer is emptied", IllegalArgumentException.class, () -> x.truncate(1));
        Check.same("53: solved", x.solvedTimes(1), 1);
        Check.same("53: wrong", Bouncers.answer(x, 1, "peas"), 4);
        Check.refuses("53: the buffer is emptied", IllegalArgumentException.class, () -> x.truncate(1));
        Check.same("53: not solved", x.solvedTimes(0) + " " + x.solvedTimes(1), "0 1");
        Check.same("53: both have no riddle", x.riddleOf(0) + " " + x.riddleOf(1), "-1 -1");
        x.ask(2);
        Check.same("53: another vegetable", Bouncers.answer(x, 2, "leek"), 4);
        x.pass(4);
        x.ask(2);
        Check.same("53: a part of it", Bouncers.answer(x, 2, "pe"), 8);
        x.pass(8);
        x.ask(2);
        Check.same("53: eight letters", Bouncers.answer(x, 2, "zazazaza"), 16);
        VegetableBouncer y = Bouncers.loaded("bouncer 1 1;riddle abcdefgh 0;guest ann;ask ann;");
        Check.same("53: eight right letters", Bouncers.answer(y, 0, "abcdefgh"), 0);
    }

    private static void answerRefused() {
        VegetableBouncer x = Bouncers.loaded(TEXT);
        x.ask(0);
        Check.refuses("53: no letters", IllegalArgumentException.class, () -> x.answer(0));
        String[] wrong = {"abcdefghi", "pea ", " pea", "Pea", "pe1", "pe;", "pe\n", "p`a", "p{a", "p\u00e9a", "pe a"};
        for (String word : wrong) {
            Bouncers.type(x, word);
            Check.refuses("53: \"" + word + "\"", IllegalArgumentException.class, () -> x.answer(0));
            Check.refuses("53: before the riddle", IllegalArgumentException.class, () -> x.answer(1));
            GuestTest.forWrongGuests("53: before the word", guest -> x.answer(guest));
            Check.same("53: the buffer stays", x.truncate(word.length()), word.length());
            x.truncate(0);
        }
        Bouncers.type(x, "pea");
        Check.refuses("53: no riddle", IllegalStateException.class, () -> x.answer(1));
        Check.same("53: the buffer stays", x.truncate(3), 3);
        GuestTest.forWrongGuests("53: answer", guest -> x.answer(guest));
        Check.same("53: the buffer stays", x.answer(0), 0);
    }

    private static void enter() {
        VegetableBouncer x = Bouncers.loaded(TEXT);
        Check.refuses("54: no token", IllegalStateException.class, () -> x.enter(0, 0));
        token(x, 0);
        token(x, 1);
        token(x, 2);
        Check.refuses("54: closed", IllegalStateException.class, () -> x.enter(0, 1));
        Check.same("54: the first", x.enter(0, 0), 1);
        Check.same("54: the second", x.enter(2, 0), 2);
        Check.refuses("54: full", IllegalStateException.class, () -> x.enter(1, 0));
        Check.refuses("54: inside", IllegalStateException.class, () -> x.enter(0, 0));
        Check.same("54: where they are", x.doorOf(0) + " " + x.doorOf(1) + " " + x.doorOf(2), "0 -1 0");
        Check.same("54: the tokens", x.tokenLeft(0) + " " + x.tokenLeft(1) + " " + x.tokenLeft(2), "0 20 0");
        GuestTest.forWrongGuests("54: enter", guest -> x.enter(guest, 0));
        DoorTest.forWrongDoors("54: enter", door -> x.enter(1, door));
        DoorTest.forWrongDoors("54: enter, inside", door -> x.enter(0, door));
    }

    private static void leave() {
        VegetableBouncer x = Bouncers.loaded(TEXT + "hours east 0 3;");
        token(x, 0);
        token(x, 1);
        Check.refuses("55: outside", IllegalStateException.class, () -> x.leave(0));
        x.enter(0, 1);
        x.enter(1, 0);
        Check.same("55: the door", x.leave(0), 1);
        Check.same("55: outside", x.doorOf(0) + " " + x.insideOf(1) + " " + x.insideOf(0), "-1 0 1");
        Check.refuses("55: outside again", IllegalStateException.class, () -> x.leave(0));
        Check.same("55: the token is not given back", x.tokenLeft(0), 0);
        Check.same("55: door 0", x.leave(1), 0);
        GuestTest.forWrongGuests("55: leave", guest -> x.leave(guest));
    }

    private static void forgive() {
        VegetableBouncer x = Bouncers.loaded(TEXT);
        x.ask(0);
        Bouncers.answer(x, 0, "x");
        x.pass(4);
        x.ask(0);
        Bouncers.answer(x, 0, "x");
        Check.same("56: before", x.failuresOf(0) + " " + x.waitLeft(0) + " " + x.totalWait(0), "2 8 12");
        Check.same("56: former failures", x.forgive(0), 2);
        Check.same("56: after", x.failuresOf(0) + " " + x.waitLeft(0) + " " + x.totalWait(0), "0 0 0");
        Check.same("56: may be asked", x.askRefusal(0), 0);
        Check.same("56: wrong answers stay", x.wrongAnswers(0), 2);
        Check.same("56: nothing to forgive", x.forgive(0) + " " + x.forgive(1), "0 0");
        x.ask(0);
        Check.same("56: the wait starts anew", Bouncers.answer(x, 0, "x"), 4);
        token(x, 1);
        x.forgive(1);
        x.ask(2);
        x.forgive(2);
        Check.same("56: token, level and riddle stay", x.tokenLeft(1) + " " + x.levelOf(1) + " " + (x.riddleOf(2) >= 0),
                "20 1 true");
        GuestTest.forWrongGuests("56: forgive", guest -> x.forgive(guest));
    }

    private static void setWarp() {
        VegetableBouncer x = new VegetableBouncer();
        Check.same("57: former warp", x.setWarp(0, 9), 2);
        Check.same("57: warp", x.warpOf(0), 9);
        Check.same("57: again", x.setWarp(0, 0) + " " + x.setWarp(0, 0), "9 0");
        Check.same("57: the others", x.warpOf(1) + " " + x.warpOf(2) + " " + x.warpOf(3), "0 1 4");
        for (int warp : new int[] {-1, 10, Integer.MIN_VALUE, Integer.MAX_VALUE}) {
            Check.refuses("57: warp " + warp, IllegalArgumentException.class, () -> x.setWarp(0, warp));
        }
        RiddleTest.forWrongRiddles("57: setWarp", riddle -> x.setWarp(riddle, 1));
        RiddleTest.forWrongRiddles("57: setWarp both wrong", riddle -> x.setWarp(riddle, 10));
        Check.same("57: asked times stay", x.askedTimes(1), 4);
    }

    private static void setHours() {
        VegetableBouncer x = Bouncers.loaded(TEXT);
        token(x, 0);
        token(x, 1);
        x.enter(0, 0);
        x.enter(1, 0);
        Check.same("58: still open", x.setHours(0, 23, 1), 0);
        Check.same("58: nobody goes", x.insideOf(0) + " " + x.shownOut() + " " + x.hoursOpen(0), "2 0 2");
        Check.same("58: always open", x.setHours(0, 7, 7) + " " + x.insideOf(0), "0 2");
        Check.same("58: another door", x.setHours(1, 5, 6) + " " + x.insideOf(0), "0 2");
        Check.same("58: closed", x.setHours(0, 1, 0), 2);
        Check.same("58: all are out", x.insideOf(0) + " " + x.shownOut() + " " + x.doorOf(0), "0 2 -1");
        Check.same("58: closed before", x.setHours(0, 2, 3) + " " + x.shownOut(), "0 2");
        Check.same("58: the hours", x.isOpen(0) + " " + x.opensIn(0), "false 120");
        Check.same("58: the edges", x.setHours(0, 0, 23) + " " + x.hoursOpen(0) + " " + x.setHours(0, 23, 0), "0 23 0");
    }

    private static void setHoursRefused() {
        VegetableBouncer x = new VegetableBouncer();
        for (int hour : new int[] {-1, 24, Integer.MIN_VALUE, Integer.MAX_VALUE}) {
            Check.refuses("58: opens " + hour, IllegalArgumentException.class, () -> x.setHours(0, hour, 1));
            Check.refuses("58: closes " + hour, IllegalArgumentException.class, () -> x.setHours(0, 1, hour));
            DoorTest.forWrongDoors("58: setHours both wrong", door -> x.setHours(door, hour, hour));
        }
        DoorTest.forWrongDoors("58: setHours", door -> x.setHours(door, 1, 2));
        Check.same("58: nothing changed", x.hoursOpen(0) + " " + x.insideOf(0), "20 1");
    }

    private static void passExpiresTokens() {
        VegetableBouncer x = Bouncers.loaded(TEXT);
        token(x, 0);
        token(x, 1);
        Check.same("59: none", x.pass(5), 0);
        token(x, 2);
        Check.same("59: none yet", x.pass(14), 0);
        Check.same("59: two", x.pass(1) + " " + x.tokenCount(), "2 1");
        Check.same("59: the third", x.pass(999) + " " + x.tokenCount(), "1 0");
        Check.same("59: minute", x.minute(), 1019);
        Check.same("59: none left", x.pass(999), 0);
        Check.same("59: minute", x.minute(), 2018);
    }

    private static void passShowsOut() {
        VegetableBouncer x = Bouncers.loaded(TEXT);
        token(x, 0);
        x.enter(0, 0);
        x.pass(119);
        Check.same("59: still inside", x.doorOf(0) + " " + x.shownOut(), "0 0");
        x.pass(1);
        Check.same("59: shown out", x.doorOf(0) + " " + x.shownOut() + " " + x.hour(), "-1 1 2");
        VegetableBouncer y = Bouncers.loaded(TEXT + "hours west 3 2;");
        token(y, 1);
        y.enter(1, 0);
        y.pass(999);
        Check.same("59: shown out though it is open again", y.isOpen(0) + " " + y.doorOf(1) + " " + y.shownOut(),
                "true -1 1");
        VegetableBouncer z = Bouncers.loaded(TEXT + "hours west 9 9;");
        token(z, 1);
        z.enter(1, 0);
        z.pass(999);
        z.pass(999);
        Check.same("59: always open", z.doorOf(1) + " " + z.shownOut(), "0 0");
    }

    private static void passRefused() {
        VegetableBouncer x = new VegetableBouncer();
        for (int minutes : new int[] {0, -1, 1000, Integer.MIN_VALUE, Integer.MAX_VALUE}) {
            Check.refuses("59: pass(" + minutes + ")", IllegalArgumentException.class, () -> x.pass(minutes));
        }
        Check.same("59: minute", x.minute(), 8);
    }

    private static void refusedCallsChangeNothing() {
        VegetableBouncer x = new VegetableBouncer();
        Check.refuses("ask", IllegalStateException.class, () -> x.ask(0));
        Check.refuses("answer", IllegalArgumentException.class, () -> x.answer(1));
        Check.refuses("enter", IllegalStateException.class, () -> x.enter(1, 0));
        Check.refuses("leave", IllegalStateException.class, () -> x.leave(1));
        Check.refuses("forgive", IndexOutOfBoundsException.class, () -> x.forgive(3));
        Check.refuses("setWarp", IllegalArgumentException.class, () -> x.setWarp(0, 10));
        Check.refuses("setHours", IllegalArgumentException.class, () -> x.setHours(0, 24, 24));
        Check.refuses("pass", IllegalArgumentException.class, () -> x.pass(0));
        Check.refuses("restore", IllegalStateException.class, () -> x.restore(0));
        Check.refuses("no call was a change", IllegalStateException.class, () -> x.undo());
        Check.same("nothing changed", x.minute() + " " + x.askedTimes(1) + " " + x.riddleOf(1) + " " + x.doorOf(0) + " "
                + x.warpOf(0) + " " + x.hoursOpen(0) + " " + x.wrongAnswers(1), "8 4 1 0 2 20 1");
    }
}
