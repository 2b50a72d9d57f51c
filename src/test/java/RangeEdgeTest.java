import java.util.NoSuchElementException;

/** The boundary cases of arguments, of sums and of the output text that stand in no other test. */
final class RangeEdgeTest {
    private RangeEdgeTest() {
    }

    static void run() {
        warpsFrom0To9();
        hoursFrom0To23();
        failuresFrom1To10();
        letterAfterZ();
        namesInsideADoor();
        bytesOfTheOutput();
        outputIsReplaced();
        differencesAreAlways0();
        sharesOfNone();
        sharesOfAll();
        averageOfNoneAndAll();
        sameRanksFromNoneToAll();
        aNewObject();
        beforeTheFirstSuccessfulLoad();
    }

    /** "warp: 0 to 9" */
    private static void warpsFrom0To9() {
        for (int warp = 0; warp <= 9; warp++) {
            VegetableBouncer x = new VegetableBouncer();
            Check.same("57: warp " + warp, x.setWarp(3, warp) + " " + x.warpOf(3) + " " + x.setWarp(3, 5),
                    "4 " + warp + " " + warp);
        }
        for (int warp : new int[] {-1, 10, -10, 26, Integer.MIN_VALUE, Integer.MAX_VALUE}) {
            Unchanged.refusedArgument("57: warp " + warp, Houses::busy, x -> x.setWarp(0, warp));
        }
    }

    /** "opens: opening hour, 0 to 23"; "closes: closing hour, 0 to 23" */
    private static void hoursFrom0To23() {
        for (int hour : new int[] {0, 1, 22, 23}) {
            VegetableBouncer x = Bouncers.loaded("bouncer 1 1;door a 5 6 1;");
            Check.same("58: opens " + hour, x.setHours(0, hour, 5) + " " + x.hoursOpen(0), "0 " + (29 - hour) % 24);
            Check.same("58: closes " + hour, x.setHours(0, 5, hour) + " " + x.hoursOpen(0), "0 " + (hour + 19) % 24);
        }
        for (int hour : new int[] {-1, 24, 25, Integer.MIN_VALUE, Integer.MAX_VALUE}) {
            Unchanged.refusedArgument("58: opens " + hour, Houses::busy, x -> x.setHours(0, hour, 5));
            Unchanged.refusedArgument("58: closes " + hour, Houses::busy, x -> x.setHours(0, 5, hour));
            Unchanged.refusedArgument("58: both " + hour, Houses::busy, x -> x.setHours(0, hour, hour));
        }
    }

    /** "failures: 1 to 10" */
    private static void failuresFrom1To10() {
        int[] due = {30, 60, 120, 240, 480, 960, 1920, 3840, 7680, 15360};
        VegetableBouncer x = Bouncers.loaded("bouncer 30 1;");
        for (int failures = 1; failures <= 10; failures++) {
            Check.same("46: failure " + failures, x.waitOfFailure(failures), due[failures - 1]);
        }
        for (int failures : new int[] {0, 11, -1, 12, 32, 33, Integer.MIN_VALUE, Integer.MAX_VALUE}) {
            Unchanged.refusedArgument("46: failure " + failures, Houses::busy, y -> y.waitOfFailure(failures));
        }
    }

    /** "the letter that comes warp places later in the alphabet, where a comes after z": each letter, each warp. */
    private static void letterAfterZ() {
        String alphabet = "abcdefghijklmnopqrstuvwxyz";
        for (int from = 0; from < 26; from += 8) {
            String word = alphabet.substring(from, Math.min(26, from + 8));
            VegetableBouncer x = Bouncers.loaded("bouncer 1 1;riddle " + word + " 0;");
            for (int warp = 0; warp <= 9; warp++) {
                x.setWarp(0, warp);
                Check.same("63: length", x.printRiddle(0), word.length());
                Check.same("63: " + word + " by " + warp, Told.output(x),
                        (alphabet + alphabet).substring(from + warp, from + warp + word.length()));
            }
        }
        VegetableBouncer x = Bouncers.loaded("bouncer 1 1;riddle zqrayz 9;riddle zaz 1;");
        Check.same("63: a after z", x.printRiddle(0) + Told.output(x), "6izajhi");
        Check.same("63: a after z", x.printRiddle(1) + Told.output(x), "3aba");
    }

    /** "their names by number, separated by spaces; a single - if no guest is inside" */
    private static void namesInsideADoor() {
        VegetableBouncer x = Bouncers.loaded("bouncer 1 99;riddle a 0;guest zzzz;guest y;guest xxxx;guest w;guest vvvv;"
                + "guest u;guest tttt;guest s;door d 0 0 9;door e 0 0 1;");
        Check.same("64: nobody", x.printDoor(0) + Told.output(x), "1-");
        int[] order = {7, 0, 5, 1, 6, 2, 4, 3};
        String[] due = {"1s", "6zzzz s", "8zzzz u s", "10zzzz y u s", "15zzzz y u tttt s", "20zzzz y xxxx u tttt s",
            "25zzzz y xxxx vvvv u tttt s", "27zzzz y xxxx w vvvv u tttt s"};
        for (int index = 0; index < order.length; index++) {
            x.ask(order[index]);
            Bouncers.answer(x, order[index], "a");
            x.enter(order[index], 0);
            Check.same("64: " + (index + 1) + " inside", x.printDoor(0) + Told.output(x), due[index]);
        }
        Check.same("64: the other door", x.printDoor(1) + Told.output(x), "1-");
        x.setHours(0, 5, 6);
        Check.same("64: all were shown out", x.printDoor(0) + Told.output(x), "1-");
    }

    /** "Throws NoSuchElementException if there is no such byte": no text, a byte, and the longest list. */
    private static void bytesOfTheOutput() {
        for (int index : new int[] {0, -1, 1, Integer.MIN_VALUE, Integer.MAX_VALUE}) {
            Unchanged.refused("65: byte " + index + " of none", NoSuchElementException.class, VegetableBouncer::new,
                    x -> x.outputByte(index));
        }
        VegetableBouncer x = Houses.busy();
        Check.same("65: the first and the last", x.outputByte(0) + " " + x.outputByte(2), "97 110");
        for (int index : new int[] {-1, 3, 4, Integer.MIN_VALUE, Integer.MAX_VALUE}) {
            Unchanged.refused("65: byte " + index + " of three", NoSuchElementException.class, Houses::busy,
                    y -> y.outputByte(index));
        }
        x.printDoor(1);
        Check.same("65: one byte", x.outputByte(0), 45);
        Check.refuses("65: byte 1 of one", NoSuchElementException.class, () -> x.outputByte(1));
        Check.refuses("65: byte -1 of one", NoSuchElementException.class, () -> x.outputByte(-1));
    }

    /** "Writes .. to the output text and replaces its content": a shorter text leaves nothing of a longer one. */
    private static void outputIsReplaced() {
        VegetableBouncer x = new VegetableBouncer();
        Check.same("63: chard", x.printRiddle(2) + Told.output(x), "5dibse");
        Check.same("63: leek", x.printRiddle(0) + Told.output(x), "4nggm");
        Check.same("64: ann", x.printDoor(0) + Told.output(x), "3ann");
        Check.same("64: nobody", x.printDoor(1) + Told.output(x), "1-");
        Check.same("63: chard again", x.printRiddle(2) + Told.output(x), "5dibse");
        x.setWarp(2, 0);
        Check.same("63: the text does not follow", Told.output(x), "dibse");
        Check.same("63: warp 0", x.printRiddle(2) + Told.output(x), "5chard");
    }

    /** "Returns the difference, which is always 0." */
    private static void differencesAreAlways0() {
        String[] texts = {Houses.EMPTY, Houses.FULL, "bouncer 30 9;riddle a 0;guest b;guest c;ask b;answer b x;ask c;",
            "bouncer 1 9;riddle a 0;guest b;" + Houses.failing("b", 10),
            "bouncer 1 9;riddle a 0;guest b;" + Houses.failing("b", 9) + "pass 256;ask b;answer b a;"};
        for (String text : texts) {
            VegetableBouncer x = Bouncers.loaded(text);
            Check.same("48: " + text, x.waitDifference(), 0);
            Check.same("49: " + text, x.riddleDifference(), 0);
        }
        VegetableBouncer x = new VegetableBouncer();
        Check.same("48, 49: a new object", x.waitDifference() + " " + x.riddleDifference(), "0 0");
        x.ask(2);
        x.forgive(1);
        Bouncers.answer(x, 1, "z");
        x.save(0);
        Bouncers.type(x, "bouncer 30 1;guest a;riddle b 1;ask a;");
        x.load();
        Bouncers.answer(x, 0, "z");
        Check.same("48, 49: another base", x.waitDifference() + " " + x.riddleDifference(), "0 0");
        x.restore(0);
        Check.same("48, 49: restored", x.waitDifference() + " " + x.riddleDifference(), "0 0");
        x.undo();
        Check.same("48, 49: undone", x.waitDifference() + " " + x.riddleDifference(), "0 0");
    }

    /** "0.0f if there are none" */
    private static void sharesOfNone() {
        Check.same("50: no guests", Bouncers.loaded(Houses.EMPTY).rightShare(), 0.0f);
        Check.same("50: no answers", Bouncers.loaded(Houses.FULL).rightShare(), 0.0f);
        String asked = "bouncer 1 9;riddle a 0;guest b;ask b;";
        Check.same("50: a riddle is no answer", Bouncers.loaded(asked).rightShare(), 0.0f);
        Check.same("50: none right", Bouncers.loaded(asked + "answer b x;").rightShare(), 0.0f);
    }

    private static void sharesOfAll() {
        String asked = "bouncer 1 1;riddle a 0;guest b;guest c;";
        for (int right = 1; right <= 9; right++) {
            VegetableBouncer x = Bouncers.loaded(asked + Houses.answering("b", "a", right));
            Check.same("50: all right", x.rightShare(), 1.0f);
            for (int wrong = 1; wrong <= 3; wrong++) {
                x.ask(1);
                Bouncers.answer(x, 1, "x");
                x.forgive(1);
                Check.same("50: " + right + " right, " + wrong + " wrong", x.rightShare(),
                        (float) right / (float) (right + wrong));
            }
        }
    }

    /** "divided by their number, both converted to double; 0.0 if there are none" */
    private static void averageOfNoneAndAll() {
        Check.same("51: no guests", Bouncers.loaded(Houses.EMPTY).averageLevel(), 0.0);
        Check.same("51: all at 0", Bouncers.loaded(Houses.FULL).averageLevel(), 0.0);
        for (int guests = 1; guests <= 7; guests++) {
            String text = "bouncer 1 1;riddle a 0;" + "guest a;guest b;guest c;guest d;guest e;guest f;guest g;"
                    .substring(0, 8 * guests) + Houses.answering("a", "a", 10);
            Check.same("51: 9 of " + guests, Bouncers.loaded(text).averageLevel(), 9.0 / (double) guests);
        }
    }

    /** "the number of riddles that have the same rank in the orders for both guests" */
    private static void sameRanksFromNoneToAll() {
        Check.same("43: no riddles", Bouncers.loaded("bouncer 1 1;guest a;").sameRanks(0, 0), 0);
        Check.same("43: one riddle", Bouncers.loaded("bouncer 1 1;guest a;guest b;riddle c 9;").sameRanks(0, 1), 1);
        Check.same("43: all ten", Bouncers.loaded(Houses.FULL).sameRanks(0, 7), 10);
        String top = "bouncer 1 1;riddle a 0;guest b;guest c;" + Houses.answering("b", "a", 9);
        Check.same("43: none of two", Bouncers.loaded(top + "riddle d 9;").sameRanks(0, 1), 0);
        Check.same("43: the middle one of three", Bouncers.loaded(top + "riddle d 4;riddle e 9;").sameRanks(1, 0), 1);
        Check.same("43: a guest and itself", Bouncers.loaded(top + "riddle d 4;riddle e 9;").sameRanks(0, 0), 3);
    }

    /** "with an empty input buffer, no error, an empty output text and no saved states" */
    private static void aNewObject() {
        VegetableBouncer x = new VegetableBouncer();
        Check.same("1: buffer, error, output", Told.bufferLength(x) + " " + Told.error(x) + " " + Told.output(x),
                "0 0@-1 ");
        Check.same("1: slots", Told.slots(new VegetableBouncer()), "nothing / nothing");
        String due = "8 0 5|1 0 0 0 -1 0 0 1 0|0 1 0 5 1 0 -1 0 1|0 1 0 5 -1 0 -1 0 1"
                + "|2 0 0|0 4 1|1 0 0|4 0 0|20 0 1192 1 1|24 0 -1 0 1";
        Check.same("1: state", Told.state(x), due);
    }

    /** "Before the first successful call of load the state is as if this text had been loaded" */
    private static void beforeTheFirstSuccessfulLoad() {
        String first = "bouncer 5 60;riddle leek 2;riddle beet 0;riddle chard 1;riddle kale 4;guest ann;guest bob;"
                + "guest cid;door west 0 20 2;door east 1 1 1;ask ann;answer ann beet;ask bob;answer bob leek;ask cid;"
                + "answer cid kale;enter ann west;pass 5;ask bob;pass 3;";
        Check.same("1: as if loaded", Told.state(new VegetableBouncer()), Told.state(Bouncers.loaded(first)));
        VegetableBouncer x = new VegetableBouncer();
        String cut = first.substring(0, first.length() - 1);
        for (String wrong : new String[] {"", "bouncer 31 1;", first + "oops", cut}) {
            x.truncate(0);
            Bouncers.type(x, wrong);
            Check.same("4: an error", x.load(), -7);
        }
        Check.same("1: still the first state", Told.state(x), Told.state(new VegetableBouncer()));
        Check.refuses("62: the first state is no change", IllegalStateException.class, () -> x.undo());
        VegetableBouncer y = new VegetableBouncer();
        y.setWarp(1, 9);
        y.ask(2);
        Check.same("1: token minutes", Bouncers.answer(y, 2, "chard") + " " + y.tokenLeft(2), "0 60");
    }
}
