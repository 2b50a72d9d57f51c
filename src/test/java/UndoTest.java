import java.util.function.Consumer;

/** Promises 60 to 62: save, restore and undo. */
final class UndoTest {
    private UndoTest() {
    }

    static void run() {
        everyChangeIsUndone();
        questionsAreNoChanges();
        onlySixChanges();
        undoneChangesAreGone();
        undoKeepsBufferOutputAndSlots();
        saveAndRestore();
        restoreIsAChange();
        slotsAreApart();
        wrongSlots();
    }

    /** All that the questions tell of the first text's guests, riddles and doors. */
    private static String told(VegetableBouncer x) {
        StringBuilder told = new StringBuilder().append(x.minute()).append('|').append(x.shownOut());
        for (int guest = 0; guest < 3; guest++) {
            told.append('|').append(x.levelOf(guest)).append(' ').append(x.failuresOf(guest)).append(' ')
                    .append(x.waitLeft(guest)).append(' ').append(x.totalWait(guest)).append(' ')
                    .append(x.riddleOf(guest)).append(' ').append(x.tokenLeft(guest)).append(' ')
                    .append(x.doorOf(guest)).append(' ').append(x.rightAnswers(guest)).append(' ')
                    .append(x.wrongAnswers(guest));
        }
        for (int riddle = 0; riddle < 4; riddle++) {
            told.append('|').append(x.warpOf(riddle)).append(' ').append(x.askedTimes(riddle)).append(' ')
                    .append(x.solvedTimes(riddle));
        }
        for (int door = 0; door < 2; door++) {
            told.append('|').append(x.hoursOpen(door)).append(' ').append(x.opensIn(door)).append(' ')
                    .append(x.closesIn(door)).append(' ').append(x.roomLeft(door));
        }
        return told.append('|').append(x.waitOfFailure(1)).toString();
    }

    private static void undone(String what, VegetableBouncer x, Consumer<VegetableBouncer> change) {
        String before = told(x);
        change.accept(x);
        Check.same("62: " + what + " changes", before.equals(told(x)), false);
        Check.same("62: undo of " + what, x.undo(), 0);
        Check.same("62: state after undo of " + what, told(x), before);
        Check.refuses("62: no more", IllegalStateException.class, () -> x.undo());
    }

    private static void everyChangeIsUndone() {
        undone("ask", new VegetableBouncer(), x -> x.ask(2));
        undone("a right answer", new VegetableBouncer(), x -> Bouncers.answer(x, 1, "beet"));
        undone("a wrong answer", new VegetableBouncer(), x -> Bouncers.answer(x, 1, "leek"));
        undone("leave", new VegetableBouncer(), x -> x.leave(0));
        undone("forgive", new VegetableBouncer(), x -> x.forgive(1));
        undone("setWarp", new VegetableBouncer(), x -> x.setWarp(2, 7));
        undone("setHours", new VegetableBouncer(), x -> x.setHours(0, 5, 6));
        undone("pass", new VegetableBouncer(), x -> x.pass(999));
        undone("load", new VegetableBouncer(), x -> {
            Bouncers.type(x, "bouncer 1 2;guest a;guest b;guest c;riddle d 1;riddle e 2;riddle f 3;riddle g 4;"
                    + "door h 1 2 3;door i 2 3 4;pass 5;");
            x.load();
        });
        VegetableBouncer x = new VegetableBouncer();
        Bouncers.answer(x, 1, "beet");
        String before = told(x);
        x.enter(1, 0);
        Check.same("62: undo of enter", x.undo(), 1);
        Check.same("62: state after undo of enter", told(x), before);
    }

    private static void questionsAreNoChanges() {
        VegetableBouncer x = new VegetableBouncer();
        told(x);
        x.save(0);
        x.printDoor(0);
        x.printRiddle(0);
        x.minutesUntilAsk(0);
        x.minutesUntilEnter(0);
        x.insideAfter(1440);
        x.append(1, 2, 3, 4, 5);
        x.truncate(0);
        Bouncers.type(x, "oops");
        x.load();
        Check.refuses("62: no change", IllegalStateException.class, () -> x.undo());
    }

    private static void onlySixChanges() {
        VegetableBouncer x = new VegetableBouncer();
        for (int change = 1; change <= 8; change++) {
            x.pass(change);
        }
        for (int left = 5; left >= 0; left--) {
            Check.same("62: left", x.undo(), left);
            Check.same("62: minute", x.minute(), 8 + (left + 2) * (left + 3) / 2);
        }
        Check.refuses("62: the seventh", IllegalStateException.class, () -> x.undo());
        Check.same("62: minute", x.minute(), 11);
    }

    private static void undoneChangesAreGone() {
        VegetableBouncer x = new VegetableBouncer();
        for (int change = 0; change < 5; change++) {
            x.pass(1);
        }
        Check.same("62: two undone", x.undo() + " " + x.undo() + " " + x.minute(), "4 3 11");
        x.pass(100);
        Check.same("62: undo of the new change", x.undo() + " " + x.minute(), "3 11");
        x.pass(100);
        x.pass(100);
        x.pass(100);
        x.pass(100);
        Check.same("62: six of seven", x.undo() + " " + x.minute(), "5 311");
        Check.same("62: the others", x.undo() + " " + x.undo() + " " + x.undo() + " " + x.minute(), "4 3 2 11");
        Check.same("62: the older ones", x.undo() + " " + x.undo() + " " + x.minute(), "1 0 9");
    }

    private static void undoKeepsBufferOutputAndSlots() {
        VegetableBouncer x = new VegetableBouncer();
        x.pass(1);
        x.save(1);
        x.printRiddle(0);
        Bouncers.type(x, "abc");
        x.undo();
        Check.same("62: the buffer stays", x.truncate(3), 3);
        Check.same("62: the output stays", Bouncers.output(x), "nggm");
        Check.same("62: the slot stays", x.restore(1), 9);
        x.truncate(0);
        x.ask(2);
        Bouncers.answer(x, 2, "leek");
        x.undo();
        Check.refuses("62: the answer is not in the buffer", IllegalArgumentException.class, () -> x.truncate(1));
    }

    private static void saveAndRestore() {
        VegetableBouncer x = new VegetableBouncer();
        String first = told(x);
        Check.same("60: save", x.save(0), 8);
        Bouncers.answer(x, 1, "beet");
        x.enter(1, 1);
        x.pass(999);
        x.pass(500);
        x.setWarp(0, 9);
        Check.same("61: restore", x.restore(0) + " " + x.minute(), "8 8");
        Check.same("61: the state", told(x), first);
        x.pass(2);
        Check.same("61: the slot keeps it", x.restore(0), 8);
        x.pass(2);
        Check.same("60: save again", x.save(0), 10);
        x.pass(5);
        Check.same("60: what was saved is replaced", x.restore(0), 10);
        Bouncers.type(x, "bouncer 9 9;");
        x.load();
        x.restore(0);
        Check.same("61: over a load", x.levelOf(0) + " " + x.waitOfFailure(1) + " " + x.hoursOpen(0), "1 5 20");
    }

    private static void restoreIsAChange() {
        VegetableBouncer x = new VegetableBouncer();
        x.pass(1);
        x.save(0);
        x.pass(1);
        x.restore(0);
        Check.same("61: undo of restore", x.undo() + " " + x.minute(), "2 10");
        Check.same("61: earlier changes", x.undo() + " " + x.minute(), "1 9");
        Check.same("61: earlier changes", x.undo() + " " + x.minute(), "0 8");
        Check.same("61: the slot keeps it", x.restore(0), 9);
    }

    private static void slotsAreApart() {
        VegetableBouncer x = new VegetableBouncer();
        x.save(1);
        Check.refuses("61: slot 0 is empty", IllegalStateException.class, () -> x.restore(0));
        x.pass(1);
        x.save(0);
        x.pass(1);
        Check.same("61: slot 1", x.restore(1), 8);
        Check.same("61: slot 0", x.restore(0), 9);
    }

    private static void wrongSlots() {
        VegetableBouncer x = new VegetableBouncer();
        for (int slot : new int[] {-1, 2, Integer.MIN_VALUE, Integer.MAX_VALUE}) {
            Check.noSuch("60: slot " + slot, () -> x.save(slot));
            Check.noSuch("61: slot " + slot, () -> x.restore(slot));
        }
        Check.refuses("61: nothing saved", IllegalStateException.class, () -> x.restore(0));
        Check.refuses("61: nothing saved", IllegalStateException.class, () -> x.restore(1));
    }
}
