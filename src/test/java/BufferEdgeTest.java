import java.util.function.Supplier;

/** The boundary cases of the input buffer: promises 2 and 3, the buffer of answer (53) and of load (4). */
final class BufferEdgeTest {
    private BufferEdgeTest() {
    }

    static void run() {
        bufferHoldsAtMost600Bytes();
        appendIsRefusedBeyond600();
        appendTakesEveryByte();
        truncateUpToTheLength();
        truncateRefusesMore();
        answerOfOneToEightLetters();
        answerOfNoneOrNine();
        answerOfLettersAlone();
        answerWithoutARiddle();
        answerEmptiesTheBuffer();
        loadEmptiesTheBuffer();
    }

    private static VegetableBouncer blanks(int length) {
        VegetableBouncer x = new VegetableBouncer();
        Bouncers.type(x, " ".repeat(length));
        return x;
    }

    /** "The input buffer holds at most 600 bytes." */
    private static void bufferHoldsAtMost600Bytes() {
        for (int length : new int[] {0, 1, 579, 580}) {
            VegetableBouncer x = blanks(length);
            Check.same("2: append behind " + length, x.append(1, 2, 3, 4, 5), length + 20);
            Check.same("2: all are held behind " + length, x.truncate(length + 20), length + 20);
        }
    }

    /** "Throws IllegalStateException if the buffer would hold more than 600 bytes" */
    private static void appendIsRefusedBeyond600() {
        for (int length : new int[] {581, 582, 599, 600}) {
            String text = "bouncer 7 9;guest a;" + " ".repeat(length - 20);
            Supplier<VegetableBouncer> maker = () -> Houses.busyWith(text);
            Unchanged.refusedNow("2: append behind " + length, maker, x -> x.append(1, 2, 3, 4, 5));
            Unchanged.refusedNow("2: append of blanks behind " + length, maker,
                    x -> x.append(0x20202020, 0x20202020, 0x20202020, 0x20202020, 0x20202020));
            VegetableBouncer y = maker.get();
            Check.refuses("2: append", IllegalStateException.class, () -> y.append(1, 2, 3, 4, 5));
            Check.same("2: the text stays", y.load() + " " + y.waitOfFailure(1), "1 7");
        }
    }

    /** "the four bytes of each parameter, the most significant byte first": each place takes a and z. */
    private static void appendTakesEveryByte() {
        for (int place = 0; place < 20; place++) {
            String before = "bouncer 1 1;" + " ".repeat(8 + place);
            Check.same("2: a statement from place " + place, Bouncers.errorOf(before + "guest az;"), "ok");
            Check.same("2: byte 96 in place " + place, Bouncers.errorOf(before + "`"), "1@" + (20 + place));
            Check.same("2: byte 123 in place " + place, Bouncers.errorOf(before + "{"), "1@" + (20 + place));
        }
        int[] highest = {0x80808080, 0xffffffff, Integer.MIN_VALUE, 0xe1e1e1e1};
        for (int four : highest) {
            VegetableBouncer x = new VegetableBouncer();
            Bouncers.type(x, "bouncer 1 1;");
            x.append(four, four, four, four, four);
            Check.same("2: bytes from 128 are no letters", x.load() + " " + x.errorCode() + "@" + x.errorOffset(),
                    "-7 1@12");
        }
    }

    /** "Returns the new length.", for the lengths 0 to that of the buffer. */
    private static void truncateUpToTheLength() {
        for (int length : new int[] {0, 1, 19, 20, 21, 599, 600}) {
            Check.same("3: truncate(" + length + ") of as many", blanks(length).truncate(length), length);
            Check.same("3: truncate(0) of " + length, blanks(length).truncate(0), 0);
            Check.same("3: truncate(0) empties " + length, emptied(blanks(length)).truncate(0), 0);
            if (length > 0) {
                Check.same("3: the last byte of " + length, blanks(length).truncate(length - 1), length - 1);
            }
        }
        VegetableBouncer x = new VegetableBouncer();
        Bouncers.type(x, "bouncer 1 1;guest a;guest b;#");
        x.truncate(28);
        Check.same("3: only the last byte goes", x.load(), 2);
    }

    private static VegetableBouncer emptied(VegetableBouncer x) {
        x.truncate(0);
        Check.refuses("3: no byte is left", IllegalArgumentException.class, () -> x.truncate(1));
        return x;
    }

    /** "Throws IllegalArgumentException if length is negative or greater than the current length" */
    private static void truncateRefusesMore() {
        for (int length : new int[] {0, 1, 20, 599, 600}) {
            Supplier<VegetableBouncer> maker = () -> Houses.busyWith(" ".repeat(length));
            for (int wrong : new int[] {-1, length + 1, Integer.MIN_VALUE, Integer.MAX_VALUE}) {
                Unchanged.refusedArgument("3: truncate(" + wrong + ") of " + length, maker, x -> x.truncate(wrong));
            }
        }
        Unchanged.refusedArgument("3: truncate after truncate", () -> Houses.busyWith("beet"), x -> {
            x.truncate(4);
            x.truncate(5);
        });
    }

    /** "1 to 8 letters a to z", the first and the last letter of the alphabet too. */
    private static void answerOfOneToEightLetters() {
        for (String word : new String[] {"a", "z", "az", "azazaza", "azazazaz", "zzzzzzzz", "aaaaaaaa"}) {
            Check.same("53: wrong answer " + word, Houses.busyWith(word).answer(1), 10);
            VegetableBouncer x = Bouncers.loaded("bouncer 5 9;riddle " + word + " 0;guest a;ask a;");
            Check.same("53: right answer " + word, Bouncers.answer(x, 0, word), 0);
        }
    }

    /** "Throws IllegalArgumentException if the buffer does not consist of 1 to 8 letters", too few and too many. */
    private static void answerOfNoneOrNine() {
        for (int length : new int[] {0, 9, 10, 20, 599, 600}) {
            Supplier<VegetableBouncer> maker = () -> Houses.busyWith("b".repeat(length));
            Unchanged.refusedArgument("53: an answer of " + length, maker, x -> x.answer(1));
            Check.same("53: it stays, " + length, Told.bufferLength(refusedAnswer(maker.get())), length);
        }
    }

    private static VegetableBouncer refusedAnswer(VegetableBouncer x) {
        Check.refuses("53: refused", IllegalArgumentException.class, () -> x.answer(1));
        return x;
    }

    /** "letters a to z": the bytes next to them, at each end and in the middle, and those of a setup text. */
    private static void answerOfLettersAlone() {
        for (int sign : new int[] {0, 9, 10, 31, 32, '0', '9', ';', 'A', 'Z', 96, 123, 128, 225, 250, 255}) {
            for (String form : new String[] {"#", "#eet", "be#t", "bee#", "beetbee#", "#eetbeet"}) {
                String word = form.replace('#', (char) sign);
                Unchanged.refusedArgument("53: byte " + sign + " in " + form, () -> Houses.busyWith(word),
                        x -> x.answer(1));
            }
        }
        Supplier<VegetableBouncer> maker = () -> Houses.busyWith("bouncer 3 3;");
        Unchanged.refusedArgument("53: a setup text", maker, x -> x.answer(1));
        Check.same("53: the text can still be loaded", refusedAnswer(maker.get()).load(), 0);
    }

    /** "Throws IllegalStateException if the guest has no riddle; the buffer is not emptied then" */
    private static void answerWithoutARiddle() {
        Unchanged.refusedNow("53: no riddle", Houses::busy, x -> x.answer(0));
        VegetableBouncer x = Houses.busy();
        Check.refuses("53: no riddle", IllegalStateException.class, () -> x.answer(0));
        Check.same("53: the buffer is not emptied", x.answer(1), 0);
        Unchanged.refusedNow("53: the riddle was answered", () -> answered("beet"), y -> y.answer(1));
        Unchanged.refusedNow("53: the riddle was answered wrongly", () -> answered("leek"), y -> y.answer(1));
    }

    private static VegetableBouncer answered(String word) {
        VegetableBouncer x = Houses.busyWith(word);
        x.answer(1);
        Bouncers.type(x, "beet");
        return x;
    }

    /** "The whole input buffer is the answer. The buffer is emptied.", for a right and a wrong one. */
    private static void answerEmptiesTheBuffer() {
        for (String word : new String[] {"beet", "b", "beetbeet", "bee", "beets", "zbeet"}) {
            VegetableBouncer x = Houses.busyWith(word);
            Check.same("53: answer " + word, x.answer(1), word.equals("beet") ? 0 : 10);
            Check.refuses("53: emptied after " + word, IllegalArgumentException.class, () -> x.truncate(1));
        }
    }

    /** "Parses the input buffer as a setup text and empties the buffer.", with and without an error. */
    private static void loadEmptiesTheBuffer() {
        for (String text : new String[] {"", " ", "x", Houses.EMPTY, Houses.FULL, " ".repeat(600)}) {
            VegetableBouncer x = Houses.busyWith(text);
            x.load();
            Check.refuses("4: emptied", IllegalArgumentException.class, () -> x.truncate(1));
            Check.same("4: empty", x.truncate(0) + " " + x.append(0, 0, 0, 0, 0), "0 20");
        }
    }
}
