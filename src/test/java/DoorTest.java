import java.util.function.IntConsumer;

/** Promises 30 to 35 and 45: the questions about doors. */
final class DoorTest {
    private DoorTest() {
    }

    static void run() {
        hoursOfADay();
        overMidnight();
        alwaysOpen();
        hoursOpen();
        insideAndRoom();
        fullestDoor();
        noSuchDoor();
    }

    private static String times(VegetableBouncer x, int door) {
        return x.isOpen(door) + " " + x.opensIn(door) + " " + x.closesIn(door);
    }

    private static void passTo(VegetableBouncer x, int minute) {
        while (x.minute() < minute) {
            x.pass(Math.min(999, minute - x.minute()));
        }
    }

    private static void hoursOfADay() {
        VegetableBouncer x = Bouncers.loaded("bouncer 1 1;door west 2 5 1;");
        Check.same("30-33: minute 0", times(x, 0), "false 120 0");
        passTo(x, 119);
        Check.same("30-33: minute 119", times(x, 0), "false 1 0");
        passTo(x, 120);
        Check.same("30-33: minute 120", times(x, 0), "true 0 180");
        passTo(x, 299);
        Check.same("30-33: minute 299", times(x, 0), "true 0 1");
        passTo(x, 300);
        Check.same("30-33: minute 300", times(x, 0), "false 1260 0");
        passTo(x, 1440 + 121);
        Check.same("30-33: the next day", times(x, 0), "true 0 179");
    }

    private static void overMidnight() {
        VegetableBouncer x = Bouncers.loaded("bouncer 1 1;door west 22 3 1;door east 23 0 1;door mid 0 1 1;");
        Check.same("30-33: west at 0", times(x, 0), "true 0 180");
        Check.same("30-33: east at 0", times(x, 1), "false 1380 0");
        Check.same("30-33: mid at 0", times(x, 2), "true 0 60");
        passTo(x, 180);
        Check.same("30-33: west at 180", times(x, 0), "false 1140 0");
        passTo(x, 1319);
        Check.same("30-33: west at 1319", times(x, 0), "false 1 0");
        passTo(x, 1320);
        Check.same("30-33: west at 1320", times(x, 0), "true 0 300");
        passTo(x, 1390);
        Check.same("30-33: east at 1390", times(x, 1), "true 0 50");
        Check.same("30-33: mid at 1390", times(x, 2), "false 50 0");
        passTo(x, 1440);
        Check.same("30-33: east at 1440", times(x, 1), "false 1380 0");
        Check.same("30-33: west at 1440", times(x, 0), "true 0 180");
    }

    private static void alwaysOpen() {
        VegetableBouncer x = Bouncers.loaded("bouncer 1 1;door west 0 0 1;door east 23 23 1;");
        for (int hour = 0; hour < 24; hour++) {
            Check.same("30-33: always open", times(x, 0) + " " + times(x, 1), "true 0 -1 true 0 -1");
            x.pass(60);
        }
    }

    private static void hoursOpen() {
        VegetableBouncer x = Bouncers.loaded("bouncer 1 1;door a 0 0 1;door b 0 23 1;door c 23 0 1;door d 22 3 1;");
        Check.same("31: hours", x.hoursOpen(0) + " " + x.hoursOpen(1) + " " + x.hoursOpen(2) + " " + x.hoursOpen(3),
                "24 23 1 5");
        x.setHours(0, 5, 4);
        Check.same("31: all hours but one", x.hoursOpen(0), 23);
    }

    private static void insideAndRoom() {
        VegetableBouncer x = new VegetableBouncer();
        Check.same("34: inside", x.insideOf(0) + " " + x.insideOf(1), "1 0");
        Check.same("35: room", x.roomLeft(0) + " " + x.roomLeft(1), "1 1");
        Bouncers.answer(x, 1, "beet");
        x.enter(1, 0);
        Check.same("34: two inside", x.insideOf(0) + " " + x.insideOf(1), "2 0");
        Check.same("35: full", x.roomLeft(0) + " " + x.roomLeft(1), "0 1");
        x.leave(0);
        Check.same("34: one left", x.insideOf(0) + " " + x.roomLeft(0), "1 1");
    }

    private static void fullestDoor() {
        Check.same("45: at first", new VegetableBouncer().fullestDoor(), 0);
        Check.same("45: no doors", Bouncers.loaded("bouncer 1 1;").fullestDoor(), -1);
        VegetableBouncer x = Bouncers.loaded("bouncer 1 9;riddle a 0;guest ann;guest bob;guest cid;"
                + "door west 0 0 9;door mid 0 0 9;door east 0 0 9;");
        Check.same("45: nobody inside", x.fullestDoor(), 0);
        for (int guest = 0; guest < 3; guest++) {
            x.ask(guest);
            Bouncers.answer(x, guest, "a");
        }
        x.enter(0, 2);
        Check.same("45: one inside", x.fullestDoor(), 2);
        x.enter(1, 1);
        Check.same("45: the same number", x.fullestDoor(), 1);
        x.enter(2, 2);
        Check.same("45: two inside", x.fullestDoor(), 2);
    }

    private static void noSuchDoor() {
        VegetableBouncer x = new VegetableBouncer();
        forWrongDoors("30: isOpen", door -> x.isOpen(door));
        forWrongDoors("31: hoursOpen", door -> x.hoursOpen(door));
        forWrongDoors("32: opensIn", door -> x.opensIn(door));
        forWrongDoors("33: closesIn", door -> x.closesIn(door));
        forWrongDoors("34: insideOf", door -> x.insideOf(door));
        forWrongDoors("35: roomLeft", door -> x.roomLeft(door));
    }

    /** For an object with two doors. */
    static void forWrongDoors(String what, IntConsumer call) {
        for (int door : new int[] {-1, 2, 3, 4, Integer.MIN_VALUE, Integer.MAX_VALUE}) {
            Check.noSuch(what + " of door " + door, () -> call.accept(door));
        }
    }
}
