import java.util.LinkedHashMap;
import java.util.Map;
import java.util.Set;
import java.util.function.Consumer;
import java.util.function.Supplier;

/** The boundary cases of undo, save and restore: promises 60 to 62 and the section on undo. */
final class UndoEdgeTest {
    private static final Map<String, Consumer<VegetableBouncer>> CHANGES = changes();

    private UndoEdgeTest() {
    }

    static void run() {
        eachChangeIsUndoneWholly();
        changesThatLeaveAllAsItWas();
        whatIsNoChange();
        zeroToSixChanges();
        theSeventhIsNotUndone();
        refusedCallsTakeNoPlaceOfTheSix();
        undoneOnesMakeRoom();
        undoBringsBackNoBufferErrorAndOutput();
        undoKeepsSavedStates();
        slots0And1();
        aSlotIsReplaced();
        restoreBringsBackWhatUndoWould();
        restoreIsOneOfTheSix();
        loadKeepsTheRest();
        nothingBeforeTheFirstChange();
    }

    /** One of each kind, for an object of ready(), or of readyToLoad() for load. */
    private static Map<String, Consumer<VegetableBouncer>> changes() {
        Map<String, Consumer<VegetableBouncer>> changes = new LinkedHashMap<>();
        changes.put("load", x -> x.load());
        changes.put("ask", x -> x.ask(2));
        changes.put("a right answer", x -> {
            x.truncate(4);
            x.answer(1);
        });
        changes.put("a wrong answer", x -> {
            x.truncate(3);
            x.answer(1);
        });
        changes.put("enter", x -> x.enter(3, 0));
        changes.put("leave", x -> x.leave(0));
        changes.put("forgive", x -> x.forgive(1));
        changes.put("setWarp", x -> x.setWarp(2, 9));
        changes.put("setHours", x -> x.setHours(0, 5, 6));
        changes.put("pass", x -> x.pass(999));
        changes.put("restore", x -> x.restore(0));
        return changes;
    }

    private static final String READY = "bouncer 5 60;riddle leek 2;riddle beet 0;riddle pea 1;guest ann;guest bob;"
            + "guest cid;guest dan;door west 0 20 2;door east 1 1 1;ask ann;answer ann beet;ask bob;answer bob x;"
            + "ask dan;answer dan beet;enter ann west;pass 5;ask bob;pass 3;";

    /** Every change can be made of it; there are two to undo, slot 0 is filled, and the buffer begins with beet. */
    private static VegetableBouncer ready() {
        VegetableBouncer x = new VegetableBouncer();
        x.save(0);
        x.pass(1);
        x.printDoor(0);
        Bouncers.type(x, READY);
        x.load();
        Bouncers.type(x, "beet");
        return x;
    }

    private static VegetableBouncer readyToLoad() {
        VegetableBouncer x = ready();
        x.truncate(0);
        Bouncers.type(x, "bouncer 1 1;guest zoe;riddle yam 3;door up 2 3 4;pass 7;");
        return x;
    }

    private static Supplier<VegetableBouncer> maker(String change) {
        return change.equals("load") ? UndoEdgeTest::readyToLoad : UndoEdgeTest::ready;
    }

    /** "Undoing a change brings back everything but the input buffer, the error, the output text ..." */
    private static void eachChangeIsUndoneWholly() {
        for (String change : CHANGES.keySet()) {
            VegetableBouncer x = maker(change).get();
            String before = Told.state(x);
            CHANGES.get(change).accept(x);
            Check.same("62: " + change + " changes the state", before.equals(Told.state(x)), false);
            Check.same("62: undo of " + change, x.undo(), 2);
            Check.same("62: the state before " + change, Told.state(x), before);
            boolean empties = change.equals("load") || change.contains("answer");
            Unchanged.but(empties ? Set.of("buffer") : Set.of(), "62: " + change + " and undo", maker(change), y -> {
                CHANGES.get(change).accept(y);
                y.undo();
            });
        }
    }

    /** A change is one though nothing differs afterwards: "Undoes the latest change that has not been undone." */
    private static void changesThatLeaveAllAsItWas() {
        Map<String, Consumer<VegetableBouncer>> changes = new LinkedHashMap<>();
        changes.put("forgive", x -> x.forgive(2));
        changes.put("setWarp", x -> x.setWarp(0, 2));
        changes.put("setHours", x -> x.setHours(0, 0, 20));
        changes.put("restore", x -> {
            x.save(1);
            x.restore(1);
        });
        for (String change : changes.keySet()) {
            VegetableBouncer x = ready();
            String before = Told.state(x);
            changes.get(change).accept(x);
            Check.same("62: " + change + " leaves the state", Told.state(x), before);
            Check.same("62: but is a change: " + change, x.undo() + " " + x.undo() + " " + x.undo(), "2 1 0");
            Check.refuses("62: the last", IllegalStateException.class, () -> x.undo());
        }
    }

    /** "These methods are changes": the others are none, a load that fails neither. */
    private static void whatIsNoChange() {
        VegetableBouncer x = new VegetableBouncer();
        x.append(1, 2, 3, 4, 5);
        x.truncate(3);
        x.load();
        x.load();
        x.save(0);
        x.save(1);
        x.printRiddle(0);
        x.printDoor(1);
        Told.state(x);
        Told.output(x);
        Check.refuses("62: no change yet", IllegalStateException.class, () -> x.undo());
        x.pass(1);
        x.save(0);
        x.load();
        Check.same("62: one change", x.undo(), 0);
        Check.refuses("62: undo is none", IllegalStateException.class, () -> x.undo());
        Unchanged.refusedNow("62: undo of nothing", () -> withBuffer(0), y -> y.undo());
    }

    /** An object with some changes, a word in the buffer, an output text and an error. */
    private static VegetableBouncer withBuffer(int changes) {
        VegetableBouncer x = new VegetableBouncer();
        x.printDoor(0);
        x.load();
        for (int change = 1; change <= changes; change++) {
            x.pass(change);
        }
        Bouncers.type(x, "beet");
        return x;
    }

    /** "Returns the number of changes that can still be undone." */
    private static void zeroToSixChanges() {
        for (int changes = 0; changes <= 6; changes++) {
            VegetableBouncer x = withBuffer(changes);
            for (int left = changes - 1; left >= 0; left--) {
                Check.same("62: of " + changes, x.undo() + " " + x.minute(), left + " " + (8 + left * (left + 1) / 2));
            }
            Check.refuses("62: none is left of " + changes, IllegalStateException.class, () -> x.undo());
            Check.same("62: a refused undo changes nothing", x.minute(), 8);
        }
    }

    /** "The latest 6 changes can be undone, the latest one first.": a 7th not. */
    private static void theSeventhIsNotUndone() {
        for (int changes = 7; changes <= 14; changes++) {
            VegetableBouncer x = withBuffer(changes);
            for (int left = 5; left >= 0; left--) {
                int done = changes - 6 + left;
                Check.same("62: of " + changes, x.undo() + " " + x.minute(), left + " " + (8 + done * (done + 1) / 2));
            }
            int done = changes - 6;
            int all = changes;
            Check.refuses("62: the seventh of " + changes, IllegalStateException.class, () -> x.undo());
            Check.same("62: it stays", x.minute(), 8 + done * (done + 1) / 2);
            Unchanged.refusedNow("62: the seventh", () -> undoneSix(all), y -> y.undo());
        }
    }

    /** "A call that throws an exception changes nothing.": the oldest of six changes stays too. */
    private static void refusedCallsTakeNoPlaceOfTheSix() {
        for (int changes : new int[] {5, 6, 7}) {
            Supplier<VegetableBouncer> maker = () -> withBuffer(changes);
            Unchanged.refusedNow("52: refused", maker, x -> x.ask(0));
            Unchanged.refusedArgument("53: refused", () -> emptied(changes), x -> x.answer(1));
            Unchanged.refusedNow("53: refused", maker, x -> x.answer(0));
            Unchanged.refusedNow("54: refused", maker, x -> x.enter(1, 0));
            Unchanged.refusedNow("55: refused", maker, x -> x.leave(1));
            Unchanged.refusedNumber("56: refused", maker, x -> x.forgive(3));
            Unchanged.refusedArgument("57: refused", maker, x -> x.setWarp(0, 10));
            Unchanged.refusedArgument("58: refused", maker, x -> x.setHours(0, 1, 24));
            Unchanged.refusedArgument("59: refused", maker, x -> x.pass(1000));
            Unchanged.refusedNow("61: refused", maker, x -> x.restore(0));
            Unchanged.but(Set.of("error", "buffer"), "4: a load that fails", maker, x -> x.load());
        }
    }

    private static VegetableBouncer emptied(int changes) {
        VegetableBouncer x = withBuffer(changes);
        x.truncate(0);
        return x;
    }

    private static VegetableBouncer undoneSix(int changes) {
        VegetableBouncer x = withBuffer(changes);
        for (int undone = 0; undone < 6; undone++) {
            x.undo();
        }
        return x;
    }

    /** Undone changes cannot be undone again; with new ones there are at most six. */
    private static void undoneOnesMakeRoom() {
        VegetableBouncer x = withBuffer(9);
        Check.same("62: three undone", x.undo() + " " + x.undo() + " " + x.undo() + " " + x.minute(), "5 4 3 29");
        x.pass(100);
        x.pass(200);
        Check.same("62: two new ones", x.undo() + " " + x.minute(), "4 129");
        x.pass(300);
        x.pass(400);
        x.pass(500);
        Check.same("62: six again", x.undo() + " " + x.undo() + " " + x.undo() + " " + x.undo() + " " + x.minute(),
                "5 4 3 2 29");
        Check.same("62: the older ones", x.undo() + " " + x.undo() + " " + x.minute(), "1 0 18");
        Check.refuses("62: no more", IllegalStateException.class, () -> x.undo());
    }

    /** "everything but the input buffer, the error, the output text": these stay as they are now. */
    private static void undoBringsBackNoBufferErrorAndOutput() {
        VegetableBouncer x = ready();
        x.pass(1);
        x.truncate(2);
        x.printRiddle(1);
        x.undo();
        Check.same("62: buffer and output", Told.bufferLength(x) + " " + Told.output(x), "2 beet");
        x.answer(1);
        x.undo();
        Check.same("62: an answer's buffer", Told.bufferLength(x) + " " + x.riddleOf(1), "0 1");
        Bouncers.type(x, "bouncer 31 1;");
        x.load();
        x.undo();
        Check.same("62: the error", Told.error(x) + " " + x.minute(), "2@8 9");
        VegetableBouncer y = readyToLoad();
        y.load();
        Check.same("62: no error", Told.error(y), "0@-1");
        y.undo();
        Check.same("62: a load's buffer", Told.bufferLength(y) + " " + Told.error(y) + " " + Told.output(y),
                "0 0@-1 ann");
        VegetableBouncer z = withBuffer(2);
        z.undo();
        Check.same("62: an error before the change", Told.error(z), "1@0");
    }

    /** "and the saved states" */
    private static void undoKeepsSavedStates() {
        VegetableBouncer x = new VegetableBouncer();
        x.pass(1);
        x.save(0);
        x.pass(1);
        x.save(1);
        x.undo();
        x.undo();
        Check.same("62: saved after the changes", x.minute() + " " + x.restore(1) + " " + x.restore(0), "8 10 9");
        VegetableBouncer y = new VegetableBouncer();
        y.save(0);
        y.pass(1);
        y.restore(0);
        y.undo();
        Check.same("62: a restored slot keeps it", y.minute() + " " + y.restore(0), "9 8");
        VegetableBouncer z = new VegetableBouncer();
        z.pass(1);
        z.undo();
        Check.refuses("62: nothing was saved", IllegalStateException.class, () -> z.restore(0));
    }

    /** "slot: 0 or 1"; "Throws IllegalStateException if nothing is saved there" */
    private static void slots0And1() {
        for (int slot : new int[] {0, 1}) {
            VegetableBouncer x = new VegetableBouncer();
            x.pass(3);
            Check.same("60: slot " + slot, x.save(slot), 11);
            x.pass(4);
            Check.same("61: slot " + slot, x.restore(slot) + " " + x.minute(), "11 11");
            Check.refuses("61: the other slot", IllegalStateException.class, () -> x.restore(1 - slot));
            Unchanged.refusedNow("61: slot " + slot, () -> savedIn(1 - slot), y -> y.restore(slot));
            Unchanged.refusedNow("61: no slot at all", () -> withBuffer(3), y -> y.restore(slot));
        }
        for (int wrong : new int[] {-1, 2, 3, Integer.MIN_VALUE, Integer.MAX_VALUE}) {
            Unchanged.refusedNumber("60: slot " + wrong, () -> savedIn(0), x -> x.save(wrong));
            Unchanged.refusedNumber("61: slot " + wrong, () -> savedIn(0), x -> x.restore(wrong));
            Unchanged.refusedNumber("61: slot " + wrong + ", none saved", () -> withBuffer(1), x -> x.restore(wrong));
        }
    }

    private static VegetableBouncer savedIn(int slot) {
        VegetableBouncer x = withBuffer(2);
        x.save(slot);
        x.pass(9);
        return x;
    }

    /** "and replaces what was saved there"; "The slot keeps it." */
    private static void aSlotIsReplaced() {
        VegetableBouncer x = new VegetableBouncer();
        for (int time = 0; time < 9; time++) {
            Check.same("60: save again", x.save(1), 8 + time);
            x.pass(2);
            Check.same("61: restore", x.restore(1), 8 + time);
            x.pass(3);
            Check.same("61: restore again", x.restore(1), 8 + time);
            x.pass(1);
        }
        x.save(0);
        x.pass(1);
        x.save(0);
        Check.same("60: only one slot is replaced", x.restore(1) + " " + x.restore(0), "16 18");
    }

    /** "Saves everything that undo would bring back in a slot": and nothing else. */
    private static void restoreBringsBackWhatUndoWould() {
        for (String change : CHANGES.keySet()) {
            VegetableBouncer x = maker(change).get();
            String before = Told.state(x);
            x.save(1);
            CHANGES.get(change).accept(x);
            Check.same("61: the minute before " + change, x.restore(1), 8);
            Check.same("61: the state before " + change, Told.state(x), before);
            Check.same("61: the output", Told.output(x), "ann");
        }
        VegetableBouncer y = ready();
        y.save(1);
        y.truncate(1);
        y.printRiddle(1);
        y.restore(1);
        Check.same("61: buffer and output stay", Told.bufferLength(y) + " " + Told.output(y), "1 beet");
        y.truncate(0);
        y.load();
        y.restore(1);
        Check.same("61: the error stays", Told.error(y), "1@0");
    }

    /** "This is a change, and earlier changes can still be undone." */
    private static void restoreIsOneOfTheSix() {
        VegetableBouncer x = new VegetableBouncer();
        x.save(0);
        for (int change = 1; change <= 6; change++) {
            x.pass(change);
        }
        Check.same("61: restore", x.restore(0), 8);
        int[] due = {29, 23, 18, 14, 11, 9};
        for (int left = 5; left >= 0; left--) {
            Check.same("62: left", x.undo() + " " + x.minute(), left + " " + due[5 - left]);
        }
        Check.refuses("62: the seventh", IllegalStateException.class, () -> x.undo());
        Check.same("61: the slot", x.restore(0) + " " + x.undo() + " " + x.minute(), "8 0 9");
    }

    /** "The saved states, the output text and the earlier changes that can be undone are kept." */
    private static void loadKeepsTheRest() {
        VegetableBouncer x = new VegetableBouncer();
        x.save(0);
        x.printDoor(0);
        for (int change = 1; change <= 5; change++) {
            x.pass(change);
        }
        x.save(1);
        Bouncers.type(x, Houses.FULL);
        Check.same("4: load", x.load() + " " + x.minute(), "8 0");
        Check.same("4: the output text", Told.output(x), "ann");
        Bouncers.type(x, Houses.EMPTY);
        Check.same("4: the seventh change", x.load(), 0);
        Check.same("62: the eight guests", x.undo() + " " + x.tokensAfter(0) + " " + x.levelOf(7), "5 0 0");
        Check.same("62: the first text", x.undo() + " " + x.minute() + " " + x.levelOf(0), "4 23 1");
        Check.same("62: before", x.undo() + " " + x.undo() + " " + x.undo() + " " + x.undo() + " " + x.minute(),
                "3 2 1 0 9");
        Check.same("4: the saved states", x.restore(0) + " " + x.restore(1), "8 23");
        Check.refuses("62: guests of the other text", IndexOutOfBoundsException.class, () -> x.levelOf(3));
    }

    /** "Throws IllegalStateException if there is no change to undo" */
    private static void nothingBeforeTheFirstChange() {
        Check.refuses("62: a new object", IllegalStateException.class, () -> new VegetableBouncer().undo());
        VegetableBouncer x = new VegetableBouncer();
        for (int time = 0; time < 20; time++) {
            x.pass(5);
            Check.same("62: the only change", x.undo() + " " + x.minute(), "0 8");
            Check.refuses("62: no other", IllegalStateException.class, () -> x.undo());
        }
    }
}
