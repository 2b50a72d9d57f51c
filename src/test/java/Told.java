import java.util.NoSuchElementException;

/** What an object tells of its parts. Some of these change it, so each is asked of an object of its own. */
final class Told {
    private Told() {
    }

    static String state(VegetableBouncer x) {
        StringBuilder told = new StringBuilder();
        told.append(x.minute()).append(' ').append(x.shownOut()).append(' ').append(x.waitOfFailure(1));
        for (int guest = 0; guest < 8 && hasGuest(x, guest); guest++) {
            told.append('|').append(guest(x, guest));
        }
        for (int riddle = 0; riddle < 10 && hasRiddle(x, riddle); riddle++) {
            told.append('|').append(x.warpOf(riddle)).append(' ').append(x.askedTimes(riddle)).append(' ')
                    .append(x.solvedTimes(riddle));
        }
        for (int door = 0; door < 4 && hasDoor(x, door); door++) {
            told.append('|').append(x.hoursOpen(door)).append(' ').append(x.opensIn(door)).append(' ')
                    .append(x.closesIn(door)).append(' ').append(x.insideOf(door)).append(' ')
                    .append(x.roomLeft(door));
        }
        return told.toString();
    }

    /** Level, failures, wait, sum of waits, riddle, token, door, right and wrong answers. */
    static String guest(VegetableBouncer x, int guest) {
        return x.levelOf(guest) + " " + x.failuresOf(guest) + " " + x.waitLeft(guest) + " " + x.totalWait(guest) + " "
                + x.riddleOf(guest) + " " + x.tokenLeft(guest) + " " + x.doorOf(guest) + " " + x.rightAnswers(guest)
                + " " + x.wrongAnswers(guest);
    }

    private static boolean hasGuest(VegetableBouncer x, int guest) {
        try {
            x.levelOf(guest);
            return true;
        } catch (IndexOutOfBoundsException none) {
            return false;
        }
    }

    private static boolean hasRiddle(VegetableBouncer x, int riddle) {
        try {
            x.warpOf(riddle);
            return true;
        } catch (IndexOutOfBoundsException none) {
            return false;
        }
    }

    private static boolean hasDoor(VegetableBouncer x, int door) {
        try {
            x.isOpen(door);
            return true;
        } catch (IndexOutOfBoundsException none) {
            return false;
        }
    }

    /** Undoes all that can be undone. */
    static String history(VegetableBouncer x) {
        StringBuilder told = new StringBuilder();
        try {
            for (int undone = 0; undone < 10; undone++) {
                told.append(x.undo()).append(':').append(x.minute()).append(' ').append(x.shownOut()).append(' ')
                        .append(x.tokenCount()).append(' ').append(x.waitingCount()).append(' ')
                        .append(x.rightShare()).append(' ').append(x.averageLevel()).append('|');
            }
        } catch (IllegalStateException end) {
            return told.append(state(x)).toString();
        }
        return told.append("never ends").toString();
    }

    static String slots(VegetableBouncer x) {
        return slot(x, 0) + " / " + slot(x, 1);
    }

    private static String slot(VegetableBouncer x, int slot) {
        try {
            return x.restore(slot) + ":" + state(x);
        } catch (IllegalStateException empty) {
            return "nothing";
        }
    }

    static String output(VegetableBouncer x) {
        StringBuilder text = new StringBuilder();
        try {
            for (int index = 0; index < 100; index++) {
                text.append((char) x.outputByte(index));
            }
        } catch (NoSuchElementException end) {
            return text.toString();
        }
        return text.append("..").toString();
    }

    static String error(VegetableBouncer x) {
        return x.errorCode() + "@" + x.errorOffset();
    }

    static String buffer(VegetableBouncer x) {
        int length = bufferLength(x);
        return length + ": " + answered(x) + ", " + x.load() + " " + error(x) + " " + state(x);
    }

    private static String answered(VegetableBouncer x) {
        try {
            return String.valueOf(x.answer(1));
        } catch (RuntimeException refused) {
            return "no answer";
        }
    }

    static int bufferLength(VegetableBouncer x) {
        try {
            return x.truncate(x.append(0, 0, 0, 0, 0) - 20);
        } catch (IllegalStateException full) {
            return longLength(x);
        }
    }

    private static int longLength(VegetableBouncer x) {
        for (int length = 600; length > 581; length--) {
            try {
                return x.truncate(length);
            } catch (IllegalArgumentException tooLong) {
                continue;
            }
        }
        return 581;
    }
}
