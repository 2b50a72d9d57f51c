/** Promises 36 to 38: why asking or entering is refused, and the best door. */
final class RefusalTest {
    private static final String TEXT = "bouncer 9 50;riddle leek 0;guest ann;guest bob;guest cid;"
            + "door west 0 1 1;door east 2 3 2;door mid 0 0 1;";

    private RefusalTest() {
    }

    static void run() {
        reasonsNotToAsk();
        bannedComesBeforeWaiting();
        reasonsNotToEnter();
        bestDoorStaysOpenLongest();
        bestDoorOfSeveral();
        noSuchNumber();
    }

    private static void reasonsNotToAsk() {
        VegetableBouncer x = Bouncers.loaded(TEXT);
        Check.same("36: none", x.askRefusal(0), 0);
        x.ask(0);
        Check.same("36: a riddle", x.askRefusal(0), 5);
        Bouncers.answer(x, 0, "leek");
        Check.same("36: a token", x.askRefusal(0), 4);
        x.enter(0, 2);
        Check.same("36: inside", x.askRefusal(0), 1);
        x.leave(0);
        Check.same("36: outside again", x.askRefusal(0), 0);
        x.ask(0);
        Bouncers.answer(x, 0, "x");
        Check.same("36: waits", x.askRefusal(0), 3);
        x.pass(9);
        Check.same("36: waits no more", x.askRefusal(0), 0);
        Check.same("36: no riddles", Bouncers.loaded("bouncer 1 1;guest ann;").askRefusal(0), 6);
    }

    private static void bannedComesBeforeWaiting() {
        VegetableBouncer x = GuestTest.withFailures(TEXT, 10);
        Check.same("36: banned and waits", x.askRefusal(0) + " " + (x.waitLeft(0) > 0), "2 true");
        for (int left = x.waitLeft(0); left > 0; left = x.waitLeft(0)) {
            x.pass(Math.min(left, 999));
        }
        Check.same("36: banned", x.askRefusal(0), 2);
        Check.refuses("52: banned", IllegalStateException.class, () -> x.ask(0));
    }

    private static void reasonsNotToEnter() {
        VegetableBouncer x = Bouncers.loaded(TEXT);
        Check.same("37: no token", x.enterRefusal(0, 0), 2);
        Check.same("37: no token at a closed door", x.enterRefusal(0, 1), 2);
        for (int guest = 0; guest < 2; guest++) {
            x.ask(guest);
            Bouncers.answer(x, guest, "leek");
        }
        Check.same("37: none", x.enterRefusal(0, 0), 0);
        Check.same("37: closed", x.enterRefusal(0, 1), 3);
        x.enter(0, 0);
        Check.same("37: inside the same", x.enterRefusal(0, 0), 1);
        Check.same("37: inside another", x.enterRefusal(0, 1) + " " + x.enterRefusal(0, 2), "1 1");
        Check.same("37: full", x.enterRefusal(1, 0), 4);
        Check.same("37: no token at a full door", x.enterRefusal(2, 0), 2);
        Check.same("37: another door", x.enterRefusal(1, 2), 0);
        x.leave(0);
        Check.same("37: room again", x.enterRefusal(1, 0), 0);
        Check.same("37: the token is gone", x.enterRefusal(0, 0), 2);
        x.pass(49);
        Check.same("37: the token's last minute", x.enterRefusal(1, 2), 0);
        x.pass(1);
        Check.same("37: expired", x.enterRefusal(1, 2), 2);
    }

    private static void bestDoorStaysOpenLongest() {
        VegetableBouncer x = Bouncers.loaded(TEXT);
        Check.same("38: no token", x.bestDoor(0), -1);
        for (int guest = 0; guest < 3; guest++) {
            x.ask(guest);
            Bouncers.answer(x, guest, "leek");
        }
        Check.same("38: always open", x.bestDoor(0), 2);
        x.enter(0, 2);
        Check.same("38: inside", x.bestDoor(0), -1);
        Check.same("38: the other is full", x.bestDoor(1), 0);
        x.enter(1, 0);
        Check.same("38: all full or closed", x.bestDoor(2), -1);
        x.leave(1);
        x.setHours(1, 23, 2);
        Check.same("38: longer open", x.bestDoor(2), 1);
        x.setHours(0, 20, 3);
        Check.same("38: longest open", x.bestDoor(2), 0);
        Check.same("38: no doors", Bouncers.loaded("bouncer 1 1;guest ann;").bestDoor(0), -1);
    }

    private static void bestDoorOfSeveral() {
        VegetableBouncer x = Bouncers.loaded("bouncer 1 9;riddle a 0;guest ann;ask ann;answer ann a;"
                + "door west 0 5 1;door mid 23 5 1;door east 4 4 1;door up 9 9 1;");
        Check.same("38: the first that is always open", x.bestDoor(0), 2);
        x.setHours(2, 0, 5);
        x.setHours(3, 1, 9);
        Check.same("38: the first of the same length", x.bestDoor(0), 0);
        x.setHours(0, 0, 23);
        x.setHours(1, 7, 7);
        Check.same("38: always open before 23 hours", x.bestDoor(0), 1);
    }

    private static void noSuchNumber() {
        VegetableBouncer x = new VegetableBouncer();
        GuestTest.forWrongGuests("36: askRefusal", guest -> x.askRefusal(guest));
        GuestTest.forWrongGuests("37: enterRefusal", guest -> x.enterRefusal(guest, 0));
        GuestTest.forWrongGuests("37: enterRefusal both wrong", guest -> x.enterRefusal(guest, -1));
        DoorTest.forWrongDoors("37: enterRefusal", door -> x.enterRefusal(0, door));
        GuestTest.forWrongGuests("38: bestDoor", guest -> x.bestDoor(guest));
    }
}
