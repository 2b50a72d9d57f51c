import java.util.NoSuchElementException;

/** Promises 1 to 3: a new object and the input buffer. */
final class InputTest {
    private static final int BLANKS = 0x20202020;

    private InputTest() {
    }

    static void run() {
        newObjectHoldsTheFirstState();
        newObjectHoldsNothingElse();
        objectsAreApart();
        appendTakesTheMostSignificantByteFirst();
        appendKeepsEveryByte();
        appendStopsAt600();
        truncateShortens();
        truncateRefusesOtherLengths();
    }

    private static void newObjectHoldsTheFirstState() {
        VegetableBouncer x = new VegetableBouncer();
        Check.same("1: minute", x.minute(), 8);
        Check.same("1: warps", x.warpOf(0) + " " + x.warpOf(1) + " " + x.warpOf(2) + " " + x.warpOf(3), "2 0 1 4");
        Check.same("1: beet was asked", x.askedTimes(1), 4);
        Check.same("1: levels", x.levelOf(0) + " " + x.levelOf(1) + " " + x.levelOf(2), "1 0 0");
        Check.same("1: ann is in west", x.doorOf(0), 0);
        Check.same("1: bob has a riddle", x.riddleOf(1), 1);
        Check.same("1: base", x.waitOfFailure(1), 5);
        Check.noSuch("1: fourth guest", () -> x.levelOf(3));
        Check.noSuch("1: fifth riddle", () -> x.warpOf(4));
        Check.noSuch("1: third door", () -> x.isOpen(2));
        String[] shown = {"nggm", "beet", "dibse", "oepi"};
        for (int riddle = 0; riddle < shown.length; riddle++) {
            x.printRiddle(riddle);
            Check.same("1: riddle " + riddle, Bouncers.output(x), shown[riddle]);
        }
        x.printDoor(0);
        Check.same("1: inside west", Bouncers.output(x), "ann");
        x.printDoor(1);
        Check.same("1: inside east", Bouncers.output(x), "-");
        x.setWarp(1, 9);
        x.ask(2);
        Check.same("1: token minutes", Bouncers.answer(x, 2, "chard") + " " + x.tokenLeft(2), "0 60");
    }

    private static void newObjectHoldsNothingElse() {
        VegetableBouncer x = new VegetableBouncer();
        Check.refuses("1: the buffer is empty", IllegalArgumentException.class, () -> x.truncate(1));
        Check.same("1: truncate(0)", x.truncate(0), 0);
        Check.same("1: error code", x.errorCode(), 0);
        Check.same("1: error offset", x.errorOffset(), -1);
        Check.refuses("1: output", NoSuchElementException.class, () -> x.outputByte(0));
        Check.refuses("1: slot 0", IllegalStateException.class, () -> x.restore(0));
        Check.refuses("1: slot 1", IllegalStateException.class, () -> x.restore(1));
        Check.refuses("1: nothing to undo", IllegalStateException.class, () -> x.undo());
    }

    private static void objectsAreApart() {
        VegetableBouncer one = new VegetableBouncer();
        VegetableBouncer other = new VegetableBouncer();
        one.pass(100);
        one.save(0);
        one.printDoor(0);
        one.append(BLANKS, BLANKS, BLANKS, BLANKS, BLANKS);
        Check.same("1: the other's minute", other.minute(), 8);
        Check.refuses("1: the other's slot", IllegalStateException.class, () -> other.restore(0));
        Check.refuses("1: the other's output", NoSuchElementException.class, () -> other.outputByte(0));
        Check.refuses("1: the other's buffer", IllegalArgumentException.class, () -> other.truncate(1));
    }

    private static void appendTakesTheMostSignificantByteFirst() {
        VegetableBouncer x = new VegetableBouncer();
        // "bouncer 7 99;guest j"
        Check.same("2: length", x.append(0x626f756e, 0x63657220, 0x37203939, 0x3b677565, 0x7374206a), 20);
        // "o;                  "
        Check.same("2: length of two", x.append(0x6f3b2020, BLANKS, BLANKS, BLANKS, BLANKS), 40);
        Check.same("2: the text", x.load(), 1);
        Check.same("2: its base", x.waitOfFailure(1), 7);
        Check.noSuch("2: the former guests are gone", () -> x.levelOf(1));
    }

    private static void appendKeepsEveryByte() {
        int[] signs = {0, 9, 13, 31, 33, 47, 58, 60, 64, 'A', 'Z', 96, 123, 127, 128, 160, 223, 225, 255};
        for (int sign : signs) {
            Check.same("2: byte " + sign, Bouncers.errorOf("bouncer 1 1;" + (char) sign + "guest a;"), "1@12");
        }
        Check.same("2: byte 10", Bouncers.errorOf("bouncer 1 1;\nguest a;"), "ok");
    }

    private static void appendStopsAt600() {
        VegetableBouncer x = new VegetableBouncer();
        for (int length = 20; length <= 600; length += 20) {
            Check.same("2: length", x.append(BLANKS, BLANKS, BLANKS, BLANKS, BLANKS), length);
        }
        Check.refuses("2: byte 601", IllegalStateException.class, () -> x.append(1, 2, 3, 4, 5));
        Check.same("2: kept length", x.truncate(600), 600);
        x.truncate(581);
        Check.refuses("2: 601 bytes", IllegalStateException.class, () -> x.append(1, 2, 3, 4, 5));
        x.truncate(580);
        Check.same("2: 600 bytes", x.append(BLANKS, BLANKS, BLANKS, BLANKS, BLANKS), 600);
        Check.same("2: all blank", x.load() + " " + x.errorCode() + "@" + x.errorOffset(), "-7 1@600");
    }

    private static void truncateShortens() {
        VegetableBouncer x = new VegetableBouncer();
        Bouncers.type(x, "bouncer 1 1;guest a;guest b;");
        Check.same("3: the same length", x.truncate(28), 28);
        Check.same("3: shorter", x.truncate(20), 20);
        Check.same("3: the first bytes stay", x.load(), 1);
        Bouncers.type(x, "bouncer 1 1;");
        Check.same("3: to nothing", x.truncate(0), 0);
        Check.same("3: an empty text", x.load() + " " + x.errorCode() + "@" + x.errorOffset(), "-7 1@0");
    }

    private static void truncateRefusesOtherLengths() {
        VegetableBouncer x = new VegetableBouncer();
        x.append(BLANKS, BLANKS, BLANKS, BLANKS, BLANKS);
        int[] wrong = {-1, 21, 600, Integer.MIN_VALUE, Integer.MAX_VALUE};
        for (int length : wrong) {
            Check.refuses("3: truncate(" + length + ")", IllegalArgumentException.class, () -> x.truncate(length));
        }
        Check.same("3: the length after refusals", x.truncate(20), 20);
    }
}
