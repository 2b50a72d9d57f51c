/** Promises 4 to 6: load, errorCode and errorOffset, with the statements and errors of the setup text. */
final class SetupTextTest {
    static final String B = Houses.EMPTY;
    private static final int AT = B.length();

    private SetupTextTest() {
    }

    static void run() {
        loadReplacesTheState();
        eachLoadStartsAnew();
        loadKeepsTheRest();
        anErrorKeepsTheState();
        aLaterLoadClearsTheError();
        wrongForms();
        textsThatEndTooEarly();
        numbersOutOfRange();
        namesTakenOrTooLong();
        unknownNames();
        tooMany();
        refusedStatements();
        statementsAreCarriedOut();
        statementsChangeDoors();
    }

    private static void loadReplacesTheState() {
        VegetableBouncer x = new VegetableBouncer();
        Bouncers.type(x, "bouncer 30 999;guest zoe;guest yan;riddle pea 9;");
        Check.same("4: guests", x.load(), 2);
        Check.same("4: the buffer is empty", x.truncate(0), 0);
        Check.refuses("4: the buffer is empty", IllegalArgumentException.class, () -> x.truncate(1));
        Check.same("4: minute", x.minute(), 0);
        Check.same("4: asked", x.askedTimes(0), 0);
        Check.same("4: solved", x.solvedTimes(0), 0);
        Check.same("4: guest", x.levelOf(0) + " " + x.rightAnswers(0) + " " + x.wrongAnswers(1) + " " + x.riddleOf(1)
                + " " + x.doorOf(0) + " " + x.failuresOf(1) + " " + x.totalWait(1), "0 0 0 -1 -1 0 0");
        Check.same("4: base", x.waitOfFailure(1), 30);
        x.ask(0);
        Bouncers.answer(x, 0, "pea");
        Check.same("4: token minutes", x.tokenLeft(0), 999);
        Check.noSuch("4: no second riddle", () -> x.warpOf(1));
        Check.noSuch("4: no door", () -> x.isOpen(0));
        Bouncers.type(x, "bouncer 1 1;");
        Check.same("4: no guests", x.load(), 0);
        Check.noSuch("4: no guest", () -> x.levelOf(0));
    }

    private static void eachLoadStartsAnew() {
        VegetableBouncer x = new VegetableBouncer();
        Bouncers.type(x, "bouncer 9 90;riddle leek 0;riddle pea 9;guest ann;guest bob;guest cid;guest dan;"
                + "door west 0 1 3;door east 0 0 3;ask ann;answer ann leek;ask bob;answer bob x;pass 3;ask dan;"
                + "ask cid;answer cid leek;enter cid west;pass 60;");
        Check.same("4: a text with all", x.load(), 4);
        Check.same("4: someone was shown out", x.shownOut(), 1);
        startsAnew(x);
        Bouncers.type(x, "bouncer 9 90;riddle leek 0;guest ann;guest bob;door west 0 0 3;"
                + "ask ann;answer ann leek;enter ann west;ask bob;answer bob leek;enter bob west;");
        Check.same("4: a text with guests inside", x.load() + " " + x.insideOf(0), "2 2");
        startsAnew(x);
        Bouncers.type(x, "bouncer 2 5;riddle y 1;");
        Check.same("4: no guests", x.load(), 0);
        Check.noSuch("4: one riddle", () -> x.warpOf(1));
        Check.noSuch("4: no door", () -> x.isOpen(0));
    }

    private static void startsAnew(VegetableBouncer x) {
        Bouncers.type(x, "bouncer 2 5;guest u;guest v;guest w;guest x;riddle y 1;riddle z 2;door s 1 1 1;");
        Check.same("4: a text without statements of guests", x.load(), 4);
        for (int guest = 0; guest < 4; guest++) {
            Check.same("4: guest " + guest, x.levelOf(guest) + " " + x.failuresOf(guest) + " " + x.waitLeft(guest) + " "
                    + x.totalWait(guest) + " " + x.riddleOf(guest) + " " + x.tokenLeft(guest) + " " + x.doorOf(guest)
                    + " " + x.rightAnswers(guest) + " " + x.wrongAnswers(guest), "0 0 0 0 -1 0 -1 0 0");
        }
        Check.same("4: riddles", x.askedTimes(0) + " " + x.solvedTimes(0) + " " + x.askedTimes(1) + " "
                + x.solvedTimes(1), "0 0 0 0");
        Check.same("4: minute and shown out", x.minute() + " " + x.shownOut(), "0 0");
        Check.noSuch("4: one door", () -> x.isOpen(1));
    }

    private static void loadKeepsTheRest() {
        VegetableBouncer x = new VegetableBouncer();
        x.save(1);
        x.printDoor(0);
        x.pass(2);
        Bouncers.type(x, B);
        x.load();
        Check.same("4: the output text stays", Bouncers.output(x), "ann");
        Check.same("4: undo of load", x.undo() + " " + x.minute() + " " + x.doorOf(0), "1 10 0");
        Check.same("4: undo of pass", x.undo() + " " + x.minute(), "0 8");
        Bouncers.type(x, B);
        x.load();
        Check.same("4: the saved state stays", x.restore(1) + " " + x.levelOf(0), "8 1");
    }

    private static void anErrorKeepsTheState() {
        VegetableBouncer x = new VegetableBouncer();
        x.pass(1);
        Bouncers.type(x, "bouncer 9 9;guest dan;guest eva;door west 1 2 3;riddle pea 1;pass 50;oops");
        Check.same("4: an error", x.load(), -7);
        Check.same("5: its code", x.errorCode(), 1);
        Check.same("6: its offset", x.errorOffset(), 69);
        Check.refuses("4: the buffer is emptied", IllegalArgumentException.class, () -> x.truncate(1));
        Check.same("4: the state stays", x.minute() + " " + x.levelOf(0) + " " + x.warpOf(3) + " " + x.waitOfFailure(1)
                + " " + x.doorOf(0) + " " + x.hoursOpen(0), "9 1 4 5 0 20");
        Check.same("4: a failed load is no change", x.undo() + " " + x.minute(), "0 8");
        Check.same("5: undo keeps the error", x.errorCode() + "@" + x.errorOffset(), "1@69");
    }

    private static void aLaterLoadClearsTheError() {
        VegetableBouncer x = new VegetableBouncer();
        Bouncers.type(x, "bouncer 0 1;");
        x.load();
        Check.same("5: code", x.errorCode(), 2);
        Check.same("6: offset", x.errorOffset(), 8);
        x.pass(1);
        Check.same("5: other calls keep it", x.errorCode() + "@" + x.errorOffset(), "2@8");
        Bouncers.type(x, B);
        x.load();
        Check.same("5: no code after success", x.errorCode(), 0);
        Check.same("6: no offset after success", x.errorOffset(), -1);
        x.undo();
        Check.same("5: undo brings no error back", x.errorCode() + "@" + x.errorOffset(), "0@-1");
    }

    static void error(String text, String due) {
        Check.same("5, 6: \"" + text + "\"", Bouncers.errorOf(text), due);
    }

    /** The error of a text behind B, with the offset counted from there. */
    static void errorBehind(String text, int code, int offset) {
        error(B + text, code + "@" + (AT + offset));
    }

    static void fine(String text) {
        error(text, "ok");
    }

    private static void wrongForms() {
        error("", "1@0");
        error(" \n ", "1@3");
        error(" bouncer", "1@8");
        error("bouncers 1 1;", "1@0");
        error("Bouncer 1 1;", "1@0");
        error("riddle leek 1;", "1@0");
        error(";", "1@0");
        error("bouncer 1 1", "1@11");
        error("bouncer 1 1 \n", "1@13");
        error("bouncer;", "1@7");
        error("bouncer 1;", "1@9");
        error("bouncer a 1;", "1@8");
        error("bouncer 1 1 1;", "1@12");
        error("bouncer -1 1;", "1@8");
        error("bouncer\t1 1;", "1@7");
        fine("bouncer1 1;");
        fine(" bouncer\n1\n 1 ; \n");
        errorBehind(";", 1, 0);
        errorBehind("5", 1, 0);
        errorBehind(" sing ann;", 1, 1);
        errorBehind("bouncer 1 1;", 1, 0);
        errorBehind("riddle 5 5;", 1, 7);
        errorBehind("riddle;", 1, 6);
        errorBehind("riddle leek;", 1, 11);
        errorBehind("riddle leek leek;", 1, 12);
        errorBehind("riddle leek 1 1;", 1, 14);
        errorBehind("riddle leek 1", 1, 13);
        errorBehind("guest 5;", 1, 6);
        errorBehind("guest ann bob;", 1, 10);
        errorBehind("door 5 5 5 5;", 1, 5);
        errorBehind("door west west 5 5;", 1, 10);
        errorBehind("door west 5 west 5;", 1, 12);
        errorBehind("door west 5 5;", 1, 13);
        errorBehind("door west 5 5 5 5;", 1, 16);
        errorBehind("guest ann;ask;", 1, 13);
        errorBehind("guest ann;ask 1;", 1, 14);
        errorBehind("guest ann;ask ann ann;", 1, 18);
        errorBehind("guest ann;answer ann;", 1, 20);
        errorBehind("guest ann;answer ann 5;", 1, 21);
        errorBehind("guest ann;answer ann leek leek;", 1, 26);
        errorBehind("guest ann;enter ann;", 1, 19);
        errorBehind("guest ann;enter ann 0;", 1, 20);
        errorBehind("guest ann;door west 0 0 1;enter ann west 1;", 1, 41);
        errorBehind("guest ann;leave;", 1, 15);
        errorBehind("guest ann;leave ann ann;", 1, 20);
        errorBehind("guest ann;forgive;", 1, 17);
        errorBehind("guest ann;forgive ann", 1, 21);
        errorBehind("riddle leek 1;warp leek;", 1, 23);
        errorBehind("riddle leek 1;warp 1 1;", 1, 19);
        errorBehind("riddle leek 1;warp leek 1 1;", 1, 26);
        errorBehind("door west 0 0 1;hours west 1;", 1, 28);
        errorBehind("door west 0 0 1;hours 1 1 1;", 1, 22);
        errorBehind("door west 0 0 1;hours west 1 1 1;", 1, 31);
        errorBehind("pass;", 1, 4);
        errorBehind("pass x;", 1, 5);
        errorBehind("pass 1", 1, 6);
        errorBehind("pass 1 1;", 1, 7);
        errorBehind("#", 1, 0);
    }

    private static void textsThatEndTooEarly() {
        String text = "bouncer 9 90;riddle leek 0;guest ann;door west 0 1 3;ask ann;answer ann leek;enter ann west;"
                + "leave ann;forgive ann;warp leek 9;hours west 5 6;pass 7;";
        for (int end = 1; end <= text.length(); end++) {
            boolean isBehindToken = text.charAt(end - 1) != ' '
                    && (end == text.length() || text.charAt(end) == ' ' || text.charAt(end) == ';');
            if (text.charAt(end - 1) == ';') {
                fine(text.substring(0, end));
            } else if (isBehindToken) {
                error(text.substring(0, end), "1@" + end);
                error(text.substring(0, end) + " \n", "1@" + (end + 2));
            }
        }
    }

    private static void numbersOutOfRange() {
        error("bouncer 0 1;", "2@8");
        error("bouncer 31 1;", "2@8");
        error("bouncer 1 0;", "2@10");
        error("bouncer 1 1000;", "2@10");
        error("bouncer 1 99999999999999999999999;", "2@10");
        error("bouncer 4294967297 1;", "2@8");
        error("bouncer 18446744073709551617 1;", "2@8");
        error("bouncer 0 x;", "2@8");
        fine("bouncer 30 999;");
        fine("bouncer 000000000000000000000000000030 00000000000000000999;");
        errorBehind("riddle leek 10;", 2, 12);
        fine(B + "riddle leek 9;riddle beet 0;");
        errorBehind("door west 24 0 1;", 2, 10);
        errorBehind("door west 0 24 1;", 2, 12);
        errorBehind("door west 0 0 0;", 2, 14);
        errorBehind("door west 0 0 10;", 2, 14);
        fine(B + "door west 0 23 1;door east 23 0 9;");
        errorBehind("riddle leek 1;warp leek 10;", 2, 24);
        fine(B + "riddle leek 1;warp leek 9;warp leek 0;");
        errorBehind("door west 0 0 1;hours west 24 1;", 2, 27);
        errorBehind("door west 0 0 1;hours west 1 24;", 2, 29);
        fine(B + "door west 0 0 1;hours west 23 0;hours west 0 23;");
        errorBehind("pass 1000;", 2, 5);
        fine(B + "pass 0;pass 999;");
    }

    private static void namesTakenOrTooLong() {
        fine(B + "riddle abcdefgh 1;guest abcd;door efgh 1 1 1;");
        errorBehind("riddle abcdefghi 1;", 2, 7);
        errorBehind("guest abcde;", 2, 6);
        errorBehind("door abcde 1 1 1;", 2, 5);
        errorBehind("riddle leek 1;riddle leek 2;", 3, 21);
        errorBehind("guest ann;guest ann;", 3, 16);
        errorBehind("door west 0 0 1;door west 0 0 1;", 3, 21);
        errorBehind("guest ann;door ann 0 0 1;", 3, 15);
        errorBehind("door west 0 0 1;guest west;", 3, 22);
        fine(B + "riddle ann 1;guest ann;riddle west 1;door west 1 1 1;");
        fine(B + "riddle riddle 1;guest ask;door door 1 1 1;riddle bouncer 1;");
        errorBehind("riddle leek 1;riddle leek", 3, 21);
    }

    private static void unknownNames() {
        errorBehind("ask ann;", 4, 4);
        errorBehind("guest ann;ask anna;", 4, 14);
        errorBehind("door west 0 0 1;ask west;", 4, 20);
        errorBehind("answer ann leek;", 4, 7);
        errorBehind("door west 0 0 1;enter ann west;", 4, 22);
        errorBehind("guest ann;enter ann west;", 4, 20);
        errorBehind("guest ann;enter ann ann;", 4, 20);
        errorBehind("leave ann;", 4, 6);
        errorBehind("forgive ann;", 4, 8);
        errorBehind("warp leek 1;", 4, 5);
        errorBehind("guest leek;warp leek 1;", 4, 16);
        errorBehind("hours west 1 1;", 4, 6);
        errorBehind("guest ann;hours ann 1 1;", 4, 16);
        errorBehind("ask abcdefghij;", 4, 4);
    }

    private static void tooMany() {
        String riddles = "riddle a 0;riddle b 0;riddle c 0;riddle d 0;riddle e 0;"
                + "riddle f 0;riddle g 0;riddle h 0;riddle i 0;riddle j 0;";
        fine(B + riddles);
        errorBehind(riddles + " riddle k 0;", 5, 111);
        errorBehind(riddles + "riddle a 0;", 5, 110);
        errorBehind(riddles + "riddle", 5, 110);
        String guests = "guest a;guest b;guest c;guest d;guest e;guest f;guest g;guest h;";
        fine(B + guests);
        errorBehind(guests + "guest i;", 5, 64);
        String doors = "door i 0 0 1;door j 0 0 1;door k 0 0 1;door l 0 0 1;";
        fine(B + doors);
        errorBehind(doors + "door m 0 0 1;", 5, 52);
        errorBehind(doors + "hours m 0 0;", 4, 58);
        fine(B + riddles + guests + doors);
        Check.same("4: eight guests", loadOf(B + riddles + guests + doors), 8);
    }

    private static int loadOf(String text) {
        VegetableBouncer x = new VegetableBouncer();
        Bouncers.type(x, text);
        return x.load();
    }

    private static void refusedStatements() {
        errorBehind("guest ann;ask ann;", 6, 17);
        errorBehind("guest ann;ask ann ", 1, 18);
        errorBehind("riddle leek 0;guest ann;ask ann;ask ann ;", 6, 40);
        errorBehind("guest ann;answer ann leek;", 6, 25);
        errorBehind("guest ann;leave ann;", 6, 19);
        errorBehind("guest ann;door west 0 0 1;enter ann west;", 6, 40);
        String token = "riddle leek 0;guest ann;ask ann;answer ann leek;";
        errorBehind(token + "door west 1 2 1;enter ann west;", 6, 78);
        fine(B + token + "door west 0 1 1;enter ann west;leave ann;");
        errorBehind(token + "ask ann;", 6, 55);
        errorBehind(token + "door west 0 0 1;enter ann west;ask ann;", 6, 86);
        errorBehind(token + "door west 0 0 1;enter ann west;enter ann west;", 6, 93);
        errorBehind(token + "door west 0 0 1;enter ann west;answer ann leek;", 6, 94);
        errorBehind("guest ann;riddle leek 0;ask ann;answer ann beet;ask ann;", 6, 55);
        fine(B + "guest ann;riddle leek 0;ask ann;answer ann beet;pass 1;ask ann;");
        fine(B + "guest ann;riddle leek 0;ask ann;answer ann beet;forgive ann;ask ann;");
    }

    private static void statementsAreCarriedOut() {
        VegetableBouncer x = Bouncers.loaded("bouncer 3 20;riddle leek 2;riddle pea 5;guest ann;guest bob;guest cid;"
                + "ask ann;answer ann abcdefghijklmnopqrstuvwxyzabcdefghij;pass 3;ask ann;answer ann leeks;"
                + "ask bob;answer bob leek;warp pea 1;ask cid;pass 4;answer cid pea;");
        Check.same("4: minute", x.minute(), 7);
        Check.same("4: wrong answers", x.wrongAnswers(0) + " " + x.failuresOf(0) + " " + x.totalWait(0), "2 2 9");
        Check.same("4: ann's wait", x.waitLeft(0), 2);
        Check.same("4: bob's answer", x.rightAnswers(1) + " " + x.levelOf(1) + " " + x.tokenLeft(1), "1 1 16");
        Check.same("4: warp", x.warpOf(1), 1);
        Check.same("4: cid's answer", x.rightAnswers(2) + " " + x.tokenLeft(2), "1 20");
        Check.same("4: asked", x.askedTimes(0) + " " + x.askedTimes(1), "3 1");
        Check.same("4: solved", x.solvedTimes(0) + " " + x.solvedTimes(1), "1 1");
    }

    private static void statementsChangeDoors() {
        VegetableBouncer x = Bouncers.loaded("bouncer 3 20;riddle leek 2;guest ann;guest bob;"
                + "ask ann;answer ann leek;ask bob;answer bob leek;door west 0 0 2;door east 5 6 7;"
                + "enter ann west;leave ann;enter bob west;hours west 1 3;ask bob;pass 100;answer bob x;hours east 2 1;");
        Check.same("4: outside", x.doorOf(0) + " " + x.doorOf(1), "-1 -1");
        Check.same("4: shown out by hours", x.shownOut(), 1);
        Check.same("4: ann's token is given away", x.tokenLeft(0), 0);
        Check.same("4: hours", x.hoursOpen(0) + " " + x.hoursOpen(1), "2 23");
        Check.same("4: room", x.roomLeft(0) + " " + x.roomLeft(1), "2 7");
        Check.same("4: bob", x.waitLeft(1) + " " + x.levelOf(1), "3 1");
        VegetableBouncer y = Bouncers.loaded("bouncer 3 20;riddle leek 2;guest ann;ask ann;answer ann x;forgive ann;");
        Check.same("4: forgiven", y.waitLeft(0) + " " + y.failuresOf(0) + " " + y.totalWait(0), "0 0 0");
    }
}
