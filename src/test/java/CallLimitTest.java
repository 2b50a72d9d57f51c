/** "An object is used for at most 512 calls after it has been made": the answers hold to the last of them. */
final class CallLimitTest {
    private static final int CALLS = 512;

    private CallLimitTest() {
    }

    static void run() {
        minutesUpToTheLastCall();
        doorsAfterManyMinutes();
        tokensAfterManyMinutes();
        waitsAfterManyMinutes();
        appendsUpToTheLastCall();
        failedLoadsUpToTheLastCall();
        loadsUpToTheLastCall();
        answersUpToTheLastCall();
        undosUpToTheLastCall();
        savesUpToTheLastCall();
        printsUpToTheLastCall();
        refusedCallsUpToTheLastCall();
    }

    /** 511 calls of pass, then a question. */
    private static VegetableBouncer passed() {
        VegetableBouncer x = new VegetableBouncer();
        for (int call = 1; call < CALLS; call++) {
            x.pass(999);
        }
        return x;
    }

    private static void minutesUpToTheLastCall() {
        Check.same("7: minute", passed().minute(), 510497);
        Check.same("8: hour", passed().hour(), 12);
        Check.same("47: shown out", passed().shownOut(), 1);
        Check.same("59: pass", passed().pass(999), 0);
        Check.same("60: save", passed().save(1), 510497);
        Check.same("62: undo", passed().undo(), 5);
        Check.same("32: opens", passed().opensIn(0), 0);
        Check.same("33: closes", passed().closesIn(0), 463);
        Check.same("39: asks", passed().minutesUntilAsk(0), 0);
        Check.same("42: inside", passed().insideAfter(1440), 0);
    }

    /** A text of 600 bytes in which as much time passes as can, then 999 minutes with each call; 32 calls load it. */
    private static VegetableBouncer late(String text, int passes) {
        StringBuilder whole = new StringBuilder(text);
        while (whole.length() + 9 <= 600) {
            whole.append("pass 999;");
        }
        VegetableBouncer x = new VegetableBouncer();
        Bouncers.type(x, whole + " ".repeat(600 - whole.length()));
        if (x.load() == VegetableBouncer.PARSE_ERROR) {
            throw new IllegalStateException(Told.error(x));
        }
        for (int pass = 0; pass < passes; pass++) {
            x.pass(999);
        }
        return x;
    }

    private static void doorsAfterManyMinutes() {
        String text = "bouncer 1 1;door w 15 15 1;door v 1 0 1;door u 0 1 1;";
        VegetableBouncer x = late(text, 464);
        Check.same("7, 8: time", x.minute() + " " + x.hour(), "523476 12");
        for (int door = 0; door < 3; door++) {
            Check.same("30: open", x.isOpen(door), door < 2);
            Check.same("31: hours", x.hoursOpen(door), new int[] {24, 23, 1}[door]);
            Check.same("32: opens", x.opensIn(door), new int[] {0, 0, 684}[door]);
            Check.same("33: closes", x.closesIn(door), new int[] {-1, 684, 0}[door]);
        }
        Check.same("45: the last call but one", x.fullestDoor(), 0);
        Check.same("59: the last call", x.pass(999), 0);
    }

    private static void tokensAfterManyMinutes() {
        String text = "bouncer 30 999;riddle a 0;guest b;guest c;door w 0 0 1;";
        VegetableBouncer x = late(text, 465);
        Check.same("52, 53: right", x.ask(0) + " " + Bouncers.answer(x, 0, "a"), "0 0");
        Check.same("16: token", x.tokenLeft(0) + " " + x.tokenAt(0) + " " + x.tokensAfter(998) + " "
                + x.tokensAfter(999) + " " + x.minutesUntilAsk(0) + " " + x.minutesUntilEnter(0), "999 0 1 0 999 0");
        Check.same("59: not yet", x.pass(998), 0);
        Check.same("16: a minute is left", x.tokenLeft(0), 1);
        Check.same("54: enter", x.enter(0, 0), 1);
        Check.same("42: inside", x.insideAfter(1440), 1);
        Check.same("55: leave", x.leave(0), 0);
    }

    private static void waitsAfterManyMinutes() {
        VegetableBouncer x = late("bouncer 30 999;riddle a 0;guest b;guest c;", 434);
        for (int failures = 1; failures <= 7; failures++) {
            x.ask(0);
            Check.same("53: wrong", Bouncers.answer(x, 0, "b"), 30 << failures - 1);
            Houses.passMany(x, failures == 7 ? 480 : x.waitLeft(0));
        }
        Check.same("11: the wait", x.waitLeft(0) + " " + x.totalWait(0) + " " + x.minutesUntilAsk(0) + " "
                + x.waitingAt(0) + " " + x.waitDifference(), "1440 3810 1440 0 0");
    }

    private static void appendsUpToTheLastCall() {
        VegetableBouncer x = new VegetableBouncer();
        for (int call = 2; call < CALLS; call += 2) {
            Check.same("2: append", x.append(call, call, call, call, call), 20);
            Check.same("3: truncate", x.truncate(0), 0);
        }
        Check.same("2: the last but one", x.append(0, 0, 0, 0, 0), 20);
        Check.same("3: the last", x.truncate(19), 19);
        VegetableBouncer y = new VegetableBouncer();
        int length = 0;
        for (int call = 1; call < CALLS; call++) {
            length = length == 600 ? y.truncate(0) : y.append(1, 1, 1, 1, 1);
        }
        Check.same("2: sixteen full buffers", length, 300);
        Check.same("3: the last", y.truncate(300), 300);
    }

    private static void failedLoadsUpToTheLastCall() {
        VegetableBouncer x = new VegetableBouncer();
        for (int call = 1; call < CALLS; call++) {
            Check.same("4: load", x.load(), -7);
        }
        Check.same("5: the last call", x.errorCode(), 1);
    }

    /** Four calls a load: two of append, truncate and load. */
    private static void loadsUpToTheLastCall() {
        VegetableBouncer x = new VegetableBouncer();
        for (int load = 1; load < CALLS / 4; load++) {
            Bouncers.type(x, "bouncer 1 9;guest a;guest b;pass " + load + ";");
            Check.same("4: load", x.load(), 2);
        }
        Check.same("62: undo", x.undo() + " " + x.minute(), "5 126");
        Check.same("4: no error", x.errorCode(), 0);
        Check.same("62: the last call", x.undo(), 4);
    }

    /** Five calls for a right answer, its token expiring, or a wrong one, forgiven: 101 of them behind the text. */
    private static void answersUpToTheLastCall() {
        VegetableBouncer x = new VegetableBouncer();
        Bouncers.type(x, "bouncer 1 1;riddle a 0;guest b;");
        x.load();
        for (int answers = 1; answers <= 101; answers++) {
            x.ask(0);
            Check.same("53: right", Bouncers.answer(x, 0, "a"), 0);
            Check.same("59: the token", x.pass(1), 1);
        }
        Check.same("18: right answers", x.rightAnswers(0), 101);
        Check.same("22: solved", x.solvedTimes(0), 101);
        Check.same("49: difference", x.riddleDifference(), 0);
        VegetableBouncer y = new VegetableBouncer();
        Bouncers.type(y, "bouncer 1 1;riddle a 0;guest b;");
        y.load();
        for (int answers = 1; answers <= 101; answers++) {
            y.ask(0);
            Check.same("53: wrong", Bouncers.answer(y, 0, "b"), 1);
            Check.same("56: forgiven", y.forgive(0), 1);
        }
        Check.same("19: wrong answers", y.wrongAnswers(0) + " " + y.hardestRiddle() + " " + y.rightShare(),
                "101 0 0.0");
    }

    private static void undosUpToTheLastCall() {
        VegetableBouncer x = new VegetableBouncer();
        for (int call = 2; call < CALLS; call += 2) {
            x.pass(call);
            Check.same("62: undo", x.undo(), 0);
        }
        x.pass(5);
        Check.same("62: the last call", x.undo(), 0);
        VegetableBouncer y = new VegetableBouncer();
        for (int call = 1; call <= CALLS - 7; call++) {
            y.pass(1);
        }
        for (int left = 5; left >= 0; left--) {
            Check.same("62: the latest six", y.undo(), left);
        }
        Check.refuses("62: the last call", IllegalStateException.class, () -> y.undo());
    }

    private static void savesUpToTheLastCall() {
        VegetableBouncer x = new VegetableBouncer();
        for (int call = 4; call < CALLS; call += 4) {
            x.pass(1);
            x.save(call / 4 % 2);
            x.pass(1);
            x.restore(call / 4 % 2);
        }
        Check.same("7: minute", x.minute(), 135);
        Check.same("61: the other slot", x.restore(0), 134);
        Check.same("61: the latest slot", x.restore(1), 135);
        Check.same("62: the last call", x.undo(), 5);
    }

    private static void printsUpToTheLastCall() {
        VegetableBouncer x = new VegetableBouncer();
        for (int call = 2; call < CALLS; call += 2) {
            Check.same("63: print", x.printRiddle(call / 2 % 4), call / 2 % 4 == 2 ? 5 : 4);
            Check.same("64: print", x.printDoor(0), 3);
        }
        Check.same("63: the last but one", x.printRiddle(2), 5);
        Check.same("65: the last", (char) x.outputByte(4), 'e');
    }

    private static void refusedCallsUpToTheLastCall() {
        VegetableBouncer x = new VegetableBouncer();
        for (int call = 1; call < CALLS - 1; call++) {
            Check.refuses("52: refused", IllegalStateException.class, () -> x.ask(0));
        }
        Check.refuses("62: nothing to undo", IllegalStateException.class, () -> x.undo());
        Check.same("52: the last call", x.ask(2), 1);
    }
}
