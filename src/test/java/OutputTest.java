import java.util.NoSuchElementException;

/** Promises 63 to 65: the output text. */
final class OutputTest {
    private OutputTest() {
    }

    static void run() {
        printRiddle();
        printDoor();
        outputByte();
        wrongNumbers();
    }

    private static void printRiddle() {
        VegetableBouncer x = Bouncers.loaded("bouncer 1 1;riddle abcxyz 3;riddle zzzzzzzz 9;riddle a 0;riddle z 1;");
        Check.same("63: length", x.printRiddle(0), 6);
        Check.same("63: over z", Bouncers.output(x), "defabc");
        Check.same("63: warp 9", x.printRiddle(1) + " " + Bouncers.output(x), "8 iiiiiiii");
        Check.same("63: warp 0", x.printRiddle(2) + " " + Bouncers.output(x), "1 a");
        Check.same("63: a comes after z", x.printRiddle(3) + " " + Bouncers.output(x), "1 a");
        x.setWarp(2, 9);
        Check.same("63: the warp of now", x.printRiddle(2) + " " + Bouncers.output(x), "1 j");
    }

    private static void printDoor() {
        VegetableBouncer x = Bouncers.loaded("bouncer 1 9;riddle a 0;guest z;guest anna;guest bob;guest c;"
                + "door west 0 0 9;door east 0 0 9;");
        Check.same("64: nobody", x.printDoor(0) + " " + Bouncers.output(x), "1 -");
        for (int guest = 3; guest >= 0; guest--) {
            x.ask(guest);
            Bouncers.answer(x, guest, "a");
        }
        x.enter(2, 0);
        Check.same("64: one", x.printDoor(0) + " " + Bouncers.output(x), "3 bob");
        x.enter(1, 0);
        x.enter(3, 1);
        x.enter(0, 0);
        Check.same("64: three by number", x.printDoor(0) + " " + Bouncers.output(x), "10 z anna bob");
        Check.same("64: the other door", x.printDoor(1) + " " + Bouncers.output(x), "1 c");
        x.leave(3);
        Check.same("64: nobody again", x.printDoor(1) + " " + Bouncers.output(x), "1 -");
    }

    private static void outputByte() {
        VegetableBouncer x = new VegetableBouncer();
        Check.refuses("65: empty", NoSuchElementException.class, () -> x.outputByte(0));
        x.printDoor(0);
        Check.same("65: bytes", x.outputByte(0) + " " + x.outputByte(1) + " " + x.outputByte(2), "97 110 110");
        for (int index : new int[] {-1, 3, 4, Integer.MIN_VALUE, Integer.MAX_VALUE}) {
            Check.refuses("65: index " + index, NoSuchElementException.class, () -> x.outputByte(index));
        }
        x.pass(999);
        x.pass(999);
        Check.same("65: changes keep the text", Bouncers.output(x), "ann");
        x.printDoor(1);
        Check.same("65: the text is replaced", Bouncers.output(x), "-");
    }

    private static void wrongNumbers() {
        VegetableBouncer x = new VegetableBouncer();
        x.printDoor(0);
        RiddleTest.forWrongRiddles("63: printRiddle", riddle -> x.printRiddle(riddle));
        DoorTest.forWrongDoors("64: printDoor", door -> x.printDoor(door));
        Check.same("65: refused calls keep the text", Bouncers.output(x), "ann");
    }
}
