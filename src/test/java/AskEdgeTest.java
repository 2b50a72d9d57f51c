import java.util.NoSuchElementException;

/** The boundary cases of asking and answering: levels, failures, waits, tokens and the order of the riddles. */
final class AskEdgeTest {
    private static final String ASKED = "riddle beet 0;guest a;guest b;";

    private AskEdgeTest() {
    }

    static void run() {
        everythingIsZeroAtFirst();
        levelIsAtMost9();
        answersToTheTop();
        waitsTwiceAsLong();
        waitsWhileTheMinuteIsLess();
        bannedWith10Failures();
        aRightAnswerEndsTheFailures();
        firstReasonNotToBeAsked();
        tokensExpire();
        orderByDifference();
        orderByTimesAskedAndNumber();
        orderOfNoOneAndTenRiddles();
        orderOfTokens();
        orderOfWaits();
        hardestRiddle();
        aNewTextStartsTheCountsAnew();
    }

    /** "a level (0 at first ..), a number of failures (0 at first), a minute until which .. (0 at first)" */
    private static void everythingIsZeroAtFirst() {
        VegetableBouncer x = Bouncers.loaded(Houses.FULL);
        for (int guest = 0; guest < 8; guest++) {
            Check.same("9-19: guest " + guest, Told.guest(x, guest), "0 0 0 0 -1 0 -1 0 0");
            Check.same("14: guest " + guest, x.isBanned(guest), false);
        }
        Check.same("7, 8, 47: time and shown out", x.minute() + " " + x.hour() + " " + x.shownOut(), "0 0 0");
        Check.same("26, 28: counts", x.tokenCount() + " " + x.waitingCount(), "0 0");
        for (int riddle = 0; riddle < 10; riddle++) {
            Check.same("21, 22: riddle " + riddle, x.askedTimes(riddle) + " " + x.solvedTimes(riddle), "0 0");
        }
    }

    private static VegetableBouncer ofLevel(int answers) {
        return Bouncers.loaded("bouncer 1 1;" + ASKED + Houses.answering("a", "beet", answers));
    }

    /** "the level of the guest increases by 1 (up to 9)" */
    private static void levelIsAtMost9() {
        int[] due = {0, 1, 2, 3, 4, 5, 6, 7, 8, 9, 9, 9, 9};
        for (int answers = 0; answers < due.length; answers++) {
            VegetableBouncer x = ofLevel(answers);
            Check.same("9: a text with " + answers + " right answers", x.levelOf(0), due[answers]);
            Check.same("18: all count", x.rightAnswers(0) + " " + x.solvedTimes(0), answers + " " + answers);
            x.ask(0);
            Check.same("53: one more is right", Bouncers.answer(x, 0, "beet"), 0);
            Check.same("9: a level more up to 9", x.levelOf(0), Math.min(9, answers + 1));
            Check.same("9: the other guest's", x.levelOf(1), 0);
        }
        VegetableBouncer top = ofLevel(9);
        top.ask(0);
        Bouncers.answer(top, 0, "x");
        Check.same("9: a wrong answer takes none", top.levelOf(0), 9);
    }

    /** "the number of right answers in a row .. after which the level is 9": none if it is 9. */
    private static void answersToTheTop() {
        int[] due = {9, 8, 7, 6, 5, 4, 3, 2, 1, 0, 0, 0};
        for (int answers = 0; answers < due.length; answers++) {
            Check.same("44: after " + answers, ofLevel(answers).answersToTop(0), due[answers]);
        }
    }

    /** "if there are f failures now, the guest waits for the base .. multiplied by 2 to the power of f - 1" */
    private static void waitsTwiceAsLong() {
        for (int base : new int[] {1, 2, 29, 30}) {
            VegetableBouncer x = Bouncers.loaded("bouncer " + base + " 9;" + ASKED);
            int due = base;
            int sum = 0;
            for (int failures = 1; failures <= 10; failures++) {
                Houses.passMany(x, x.waitLeft(0));
                Check.same("46: failure " + failures, x.waitOfFailure(failures), due);
                Check.same("13: before failure " + failures, x.waitIfWrong(0), due);
                x.ask(0);
                Check.same("53: failure " + failures, Bouncers.answer(x, 0, "x"), due);
                sum += due;
                Check.same("10-12: failure " + failures, x.failuresOf(0) + " " + x.waitLeft(0) + " " + x.totalWait(0),
                        failures + " " + due + " " + sum);
                Check.same("48: failure " + failures, x.waitDifference(), 0);
                due += due;
            }
            Check.same("13: banned", x.waitIfWrong(0), 0);
            Check.same("11: the last wait", x.waitLeft(0), base * 512);
        }
    }

    /** "A guest waits as long as the minute number is less than the minute until which the guest waits." */
    private static void waitsWhileTheMinuteIsLess() {
        String text = "bouncer 30 9;" + ASKED + "pass 7;ask a;answer a x;";
        int[] passed = {0, 1, 28, 29, 30, 31, 999};
        String[] due = {"30 1 3 30", "29 1 3 29", "2 1 3 2", "1 1 3 1", "0 0 0 0", "0 0 0 0", "0 0 0 0"};
        for (int index = 0; index < passed.length; index++) {
            VegetableBouncer x = Bouncers.loaded(text);
            Houses.passMany(x, passed[index]);
            Check.same("11, 28, 36, 39: after " + passed[index],
                    x.waitLeft(0) + " " + x.waitingCount() + " " + x.askRefusal(0) + " " + x.minutesUntilAsk(0),
                    due[index]);
            boolean waits = passed[index] < 30;
            if (waits) {
                Check.same("29: waits", x.waitingAt(0), 0);
                Check.refuses("52: waits", IllegalStateException.class, () -> x.ask(0));
            } else {
                Check.refuses("29: waits no more", NoSuchElementException.class, () -> x.waitingAt(0));
                Check.same("52: waits no more", x.ask(0), 0);
            }
        }
    }

    /** "A guest with 10 failures is banned." */
    private static void bannedWith10Failures() {
        for (int failures = 0; failures <= 10; failures++) {
            VegetableBouncer x = Bouncers.loaded("bouncer 1 9;" + ASKED + Houses.failing("a", failures));
            int wait = failures == 0 ? 0 : 1 << failures - 1;
            Check.same("10-12: " + failures, x.failuresOf(0) + " " + x.waitLeft(0) + " " + x.totalWait(0),
                    failures + " " + wait + " " + ((1 << failures) - 1));
            Check.same("14: " + failures, x.isBanned(0) + " " + x.isBanned(1), (failures == 10) + " false");
            Check.same("13: " + failures, x.waitIfWrong(0), failures == 10 ? 0 : 1 << failures);
            Houses.passMany(x, wait);
            Check.same("36: " + failures, x.askRefusal(0), failures == 10 ? 2 : 0);
            Check.same("39: " + failures, x.minutesUntilAsk(0), failures == 10 ? -1 : 0);
            Check.same("56: " + failures, x.forgive(0) + " " + x.isBanned(0) + " " + x.ask(0), failures + " false 0");
        }
    }

    /** "the failures become 0"; "since the latest right answer or forgiving" */
    private static void aRightAnswerEndsTheFailures() {
        VegetableBouncer x = Bouncers.loaded("bouncer 1 9;" + ASKED + Houses.failing("a", 9) + "pass 256;ask a;");
        Check.same("12: before", x.failuresOf(0) + " " + x.totalWait(0), "9 511");
        Check.same("53: right", Bouncers.answer(x, 0, "beet"), 0);
        Check.same("12: after", Told.guest(x, 0), "1 0 0 0 -1 9 -1 1 9");
        Check.same("13: the wait starts anew", x.waitIfWrong(0) + " " + x.waitDifference(), "1 0");
        x.pass(9);
        x.ask(0);
        Check.same("53: the first failure again", Bouncers.answer(x, 0, "x"), 1);
        Check.same("12: the sum starts anew", x.totalWait(0) + " " + x.failuresOf(0), "1 1");
        x.forgive(0);
        Check.same("56: forgiven", Told.guest(x, 0), "1 0 0 0 -1 0 -1 1 10");
    }

    private static void refusal(String text, int due) {
        VegetableBouncer x = Bouncers.loaded(text);
        Check.same("36: " + text, x.askRefusal(0), due);
        if (due == 0) {
            Check.same("52: " + text, x.ask(0), 0);
        } else {
            Unchanged.refusedNow("52: " + text, () -> Houses.dressed(text), y -> y.ask(0));
        }
    }

    /** "Asking a guest is refused for the first of these reasons that applies", 1 to 6, and 0 beside each. */
    private static void firstReasonNotToBeAsked() {
        String door = "bouncer 1 99;" + ASKED + "ask a;answer a beet;door w 0 1 1;enter a w;";
        refusal(door, 1);
        refusal(door + "pass 59;", 1);
        refusal(door + "pass 60;", 0);
        refusal(door + "leave a;", 0);
        String failing = "bouncer 1 99;" + ASKED;
        refusal(failing + Houses.failing("a", 10), 2);
        refusal(failing + Houses.failing("a", 10) + "pass 511;", 2);
        refusal(failing + Houses.failing("a", 10) + "pass 512;", 2);
        refusal(failing + Houses.failing("a", 9), 3);
        refusal(failing + Houses.failing("a", 9) + "pass 255;", 3);
        refusal(failing + Houses.failing("a", 9) + "pass 256;", 0);
        refusal(failing + "ask a;answer a beet;", 4);
        refusal(failing + "ask a;answer a beet;pass 98;", 4);
        refusal(failing + "ask a;answer a beet;pass 99;", 0);
        refusal(failing + "ask a;", 5);
        refusal(failing + "ask a;pass 999;forgive a;", 5);
        refusal("bouncer 1 99;guest a;guest b;", 6);
        refusal("bouncer 1 99;guest a;guest b;pass 999;", 6);
    }

    /** "the guest gets a token that expires after the token minutes (1 to 999)" */
    private static void tokensExpire() {
        for (int minutes : new int[] {1, 2, 60, 998, 999}) {
            String text = "bouncer 1 " + minutes + ";" + ASKED + "door w 0 0 1;pass 3;ask a;answer a beet;";
            VegetableBouncer x = Bouncers.loaded(text);
            Check.same("16: " + minutes, x.tokenLeft(0) + " " + x.tokenCount() + " " + x.tokenAt(0), minutes + " 1 0");
            Check.same("41: " + minutes, x.tokensAfter(minutes - 1) + " " + x.tokensAfter(minutes), "1 0");
            Check.same("39: " + minutes, x.minutesUntilAsk(0), minutes);
            if (minutes > 1) {
                Check.same("59: not yet", x.pass(minutes - 1), 0);
            }
            Check.same("16: the last minute", x.tokenLeft(0) + " " + x.enterRefusal(0, 0), "1 0");
            Check.same("59: expired", x.pass(1), 1);
            Check.same("16: gone", x.tokenLeft(0) + " " + x.tokenCount() + " " + x.enterRefusal(0, 0), "0 0 2");
            Check.refuses("27: gone", NoSuchElementException.class, () -> x.tokenAt(0));
            Check.same("59: none is left", x.pass(999), 0);
            VegetableBouncer y = Bouncers.loaded(text);
            Check.same("59: in one go", y.pass(minutes) + " " + y.tokenCount(), "1 0");
        }
    }

    private static String order(VegetableBouncer x, int guest) {
        StringBuilder order = new StringBuilder();
        try {
            for (int rank = 0; rank < 11; rank++) {
                int riddle = x.riddleAt(guest, rank);
                Check.same("24: riddle " + riddle, x.rankOf(guest, riddle), rank);
                order.append(riddle);
            }
        } catch (NoSuchElementException end) {
            return order.toString();
        }
        return order.append("..").toString();
    }

    /** "by the difference (without sign) between their warp and the guest's level": 0 and 9 are the ends of both. */
    private static void orderByDifference() {
        String riddles = "bouncer 1 1;riddle beet 0;riddle b 9;riddle c 4;riddle d 5;riddle e 8;guest a;";
        VegetableBouncer x = Bouncers.loaded(riddles);
        Check.same("23: level 0", order(x, 0), "02341");
        String answers = "ask a;answer a beet;pass 1;";
        VegetableBouncer one = Bouncers.loaded(riddles + answers);
        Check.same("23: level 1", order(one, 0), "02341");
        VegetableBouncer top = Bouncers.loaded("bouncer 1 1;riddle beet 0;guest a;" + Houses.answering("a", "beet", 9)
                + "riddle b 9;riddle c 4;riddle d 5;riddle e 8;riddle f 1;");
        Check.same("23: level 9", order(top, 0), "143250");
        Check.same("52: level 9", top.ask(0), 1);
        VegetableBouncer four = Bouncers.loaded("bouncer 1 1;riddle beet 0;guest a;" + Houses.answering("a", "beet", 4)
                + "riddle b 5;riddle c 3;riddle d 9;riddle e 4;");
        Check.same("23: level 4, no sign", order(four, 0), "41203");
    }

    /** "then by the number of times they were asked, then by number" */
    private static void orderByTimesAskedAndNumber() {
        VegetableBouncer x = Bouncers.loaded("bouncer 1 1;riddle a 1;riddle b 1;riddle c 1;riddle d 0;"
                + "guest a;guest b;guest c;guest d;guest e;guest f;guest g;guest h;warp d 1;");
        String[] due = {"0123", "1230", "2301", "3012", "0123", "1230", "2301", "3012"};
        for (int guest = 0; guest < 8; guest++) {
            Check.same("23: after " + guest, order(x, guest), due[guest]);
            Check.same("52: the first one", x.ask(guest), due[guest].charAt(0) - '0');
        }
        x.setWarp(2, 0);
        Check.same("23: difference before times", order(x, 0), "2013");
        x.setWarp(2, 2);
        Check.same("23: difference before times", order(x, 0), "0132");
    }

    /** "Throws NoSuchElementException if there is no such rank", with 0, 1 and 10 riddles. */
    private static void orderOfNoOneAndTenRiddles() {
        Check.same("23: none", order(Bouncers.loaded("bouncer 1 1;guest a;"), 0), "");
        Check.same("23: one", order(Bouncers.loaded("bouncer 1 1;guest a;riddle b 9;"), 0), "0");
        Check.same("23: ten", order(Bouncers.loaded(Houses.FULL), 7), "0123456789");
        int[] counts = {0, 1, 10};
        String[] texts = {"bouncer 1 1;guest a;", "bouncer 1 1;guest a;riddle b 9;", Houses.FULL};
        for (int index = 0; index < counts.length; index++) {
            String text = texts[index];
            for (int rank : new int[] {-1, counts[index], Integer.MIN_VALUE, Integer.MAX_VALUE}) {
                Unchanged.refused("23: rank " + rank, NoSuchElementException.class, () -> Houses.dressed(text),
                        x -> x.riddleAt(0, rank));
            }
        }
    }

    /** "ordered by the minute in which it expires, then by number": the first rank, the last and the next. */
    private static void orderOfTokens() {
        String text = "bouncer 1 50;riddle beet 0;guest a;guest b;guest c;guest d;"
                + "ask c;answer c beet;pass 1;ask d;answer d beet;ask a;answer a beet;";
        VegetableBouncer x = Bouncers.loaded(text);
        Check.same("27: order", x.tokenAt(0) + " " + x.tokenAt(1) + " " + x.tokenAt(2), "2 0 3");
        for (int rank : new int[] {-1, 3, 4, 8, Integer.MIN_VALUE, Integer.MAX_VALUE}) {
            Unchanged.refused("27: rank " + rank, NoSuchElementException.class, () -> Houses.dressed(text),
                    y -> y.tokenAt(rank));
        }
    }

    /** "ordered by the minute until which they wait, then by descending failures, then by number" */
    private static void orderOfWaits() {
        String text = "bouncer 4 9;riddle beet 0;guest a;guest b;guest c;guest d;guest e;ask c;answer c x;pass 4;"
                + "ask b;answer b x;pass 4;ask b;answer b x;ask c;answer c x;pass 4;ask a;answer a x;ask d;answer d x;"
                + "pass 1;ask e;answer e x;";
        VegetableBouncer x = Bouncers.loaded(text);
        Check.same("28: count", x.waitingCount(), 5);
        Check.same("29: the same minute but for the last", x.waitLeft(0) + " " + x.waitLeft(1) + " " + x.waitLeft(2)
                + " " + x.waitLeft(3) + " " + x.waitLeft(4), "3 3 3 3 4");
        Check.same("29: order", x.waitingAt(0) + " " + x.waitingAt(1) + " " + x.waitingAt(2) + " " + x.waitingAt(3)
                + " " + x.waitingAt(4), "1 2 0 3 4");
        for (int rank : new int[] {-1, 5, 6, 8, Integer.MIN_VALUE, Integer.MAX_VALUE}) {
            Unchanged.refused("29: rank " + rank, NoSuchElementException.class, () -> Houses.dressed(text),
                    y -> y.waitingAt(rank));
        }
    }

    /** "among several the one with the smallest number, -1 if there are no riddles" */
    private static void hardestRiddle() {
        Check.same("25: no riddles", Bouncers.loaded("bouncer 1 1;guest a;").hardestRiddle(), -1);
        Check.same("25: all at 0", Bouncers.loaded(Houses.FULL).hardestRiddle(), 0);
        VegetableBouncer x = Bouncers.loaded(Houses.FULL);
        for (int guest = 0; guest < 8; guest++) {
            x.ask(guest);
            Check.same("25: all at 1 or 0", x.hardestRiddle(), 0);
        }
        Bouncers.answer(x, 0, "a");
        Check.same("25: the first is solved", x.hardestRiddle(), 1);
        Bouncers.answer(x, 1, "x");
        Check.same("25: a wrong answer solves nothing", x.hardestRiddle(), 1);
        x.setWarp(8, 9);
        x.pass(9);
        x.setWarp(9, 1);
        x.ask(0);
        Check.same("25: the last riddle", x.riddleOf(0) + " " + x.hardestRiddle(), "9 1");
        Bouncers.answer(x, 0, "x");
        x.pass(2);
        x.forgive(0);
        x.ask(0);
        Check.same("25: the last riddle twice", x.riddleOf(0) + " " + x.askedTimes(9) + " " + x.hardestRiddle(),
                "9 2 9");
    }

    /** "or since the text was loaded"; "including the text" */
    private static void aNewTextStartsTheCountsAnew() {
        VegetableBouncer x = Bouncers.loaded("bouncer 3 9;" + ASKED + "ask a;answer a x;pass 3;ask a;answer a x;");
        Check.same("12: the text counts", Told.guest(x, 0), "0 2 6 9 -1 0 -1 0 2");
        Check.same("21, 22: the text counts", x.askedTimes(0) + " " + x.solvedTimes(0), "2 0");
        x.forgive(0);
        x.ask(0);
        Bouncers.answer(x, 0, "beet");
        Check.same("18, 19: calls count too", Told.guest(x, 0), "1 0 0 0 -1 9 -1 1 2");
        Bouncers.type(x, "bouncer 2 8;" + ASKED + "ask b;answer b x;");
        x.load();
        Check.same("12: a new text", Told.guest(x, 0) + "|" + Told.guest(x, 1),
                "0 0 0 0 -1 0 -1 0 0|0 1 2 2 -1 0 -1 0 1");
        Check.same("21, 22: a new text", x.askedTimes(0) + " " + x.solvedTimes(0), "1 0");
    }
}
