/** Promises 39 to 42: questions about the future. */
final class ForecastTest {
    private ForecastTest() {
    }

    static void run() {
        untilAskOfTheFirstState();
        untilAskAfterAWrongAnswer();
        untilAskBeyondADay();
        untilAskNever();
        untilEnterAClosedDoor();
        untilEnterAFullDoor();
        untilEnterNever();
        tokensAfter();
        insideAfter();
        wrongArguments();
    }

    private static void untilAskOfTheFirstState() {
        VegetableBouncer x = new VegetableBouncer();
        Check.same("39: inside until 20 o'clock", x.minutesUntilAsk(0), 1192);
        Check.same("39: has a riddle", x.minutesUntilAsk(1), -1);
        Check.same("39: now", x.minutesUntilAsk(2), 0);
        Bouncers.answer(x, 1, "beet");
        Check.same("39: has a token", x.minutesUntilAsk(1), 60);
        x.enter(1, 1);
        Check.same("39: inside for ever", x.minutesUntilAsk(1), -1);
        Check.same("39: a question changes nothing", x.minute() + " " + x.doorOf(0) + " " + x.undo(), "8 0 1");
    }

    private static void untilAskAfterAWrongAnswer() {
        VegetableBouncer x = Bouncers.loaded("bouncer 30 9;riddle a 0;guest ann;ask ann;answer ann x;");
        Check.same("39: waits", x.minutesUntilAsk(0), 30);
        x.pass(29);
        Check.same("39: last minute", x.minutesUntilAsk(0), 1);
        x.pass(1);
        Check.same("39: waits no more", x.minutesUntilAsk(0), 0);
    }

    private static void untilAskBeyondADay() {
        VegetableBouncer x = GuestTest.withFailures("bouncer 30 9;riddle a 0;guest ann;", 7);
        Check.same("39: more than 1440", x.waitLeft(0) + " " + x.minutesUntilAsk(0), "1920 -1");
        x.pass(479);
        Check.same("39: 1441", x.minutesUntilAsk(0), -1);
        x.pass(1);
        Check.same("39: 1440", x.minutesUntilAsk(0), 1440);
    }

    private static void untilAskNever() {
        Check.same("39: no riddles", Bouncers.loaded("bouncer 1 1;guest ann;").minutesUntilAsk(0), -1);
        VegetableBouncer x = GuestTest.withFailures("bouncer 1 9;riddle a 0;guest ann;", 10);
        Check.same("39: banned", x.waitLeft(0) + " " + x.minutesUntilAsk(0), "512 -1");
        x.forgive(0);
        Check.same("39: forgiven", x.minutesUntilAsk(0), 0);
    }

    private static final String TOKEN = "bouncer 1 200;riddle a 0;guest ann;guest bob;ask ann;answer ann a;";

    private static void untilEnterAClosedDoor() {
        VegetableBouncer x = Bouncers.loaded(TOKEN + "door west 3 4 1;door east 4 5 1;");
        Check.same("40: opens", x.minutesUntilEnter(0), 180);
        Check.same("40: no token", x.minutesUntilEnter(1), -1);
        x.setHours(1, 2, 3);
        Check.same("40: the soonest", x.minutesUntilEnter(0), 120);
        x.setHours(1, 0, 3);
        Check.same("40: now", x.minutesUntilEnter(0), 0);
        VegetableBouncer exact = Bouncers.loaded("bouncer 1 60;riddle a 0;guest ann;door west 1 2 1;"
                + "ask ann;answer ann a;");
        Check.same("40: the token expires then", exact.minutesUntilEnter(0), -1);
        VegetableBouncer later = Bouncers.loaded("bouncer 1 60;riddle a 0;guest ann;door west 1 2 1;"
                + "pass 1;ask ann;answer ann a;");
        Check.same("40: the token expires a minute later", later.minutesUntilEnter(0), 59);
    }

    private static void untilEnterAFullDoor() {
        VegetableBouncer x = Bouncers.loaded("bouncer 1 999;riddle a 0;guest ann;guest bob;ask ann;answer ann a;"
                + "ask bob;answer bob a;door west 12 10 1;enter bob west;");
        Check.same("40: full until it opens again", x.minutesUntilEnter(0), 720);
        x.pass(100);
        Check.same("40: less minutes", x.minutesUntilEnter(0), 620);
        x.setHours(0, 0, 16);
        Check.same("40: opens when the token is gone", x.minutesUntilEnter(0), -1);
        x.setHours(0, 9, 9);
        Check.same("40: full for ever", x.minutesUntilEnter(0), -1);
        Check.same("40: inside", x.minutesUntilEnter(1), -1);
        x.leave(1);
        Check.same("40: room now", x.minutesUntilEnter(0), 0);
    }

    private static void untilEnterNever() {
        Check.same("40: no doors", Bouncers.loaded(TOKEN).minutesUntilEnter(0), -1);
        Check.same("40: no token", new VegetableBouncer().minutesUntilEnter(2), -1);
        Check.same("40: too late", Bouncers.loaded(TOKEN + "door west 4 5 1;").minutesUntilEnter(0), -1);
    }

    private static void tokensAfter() {
        VegetableBouncer x = Bouncers.loaded("bouncer 1 90;riddle a 0;guest ann;guest bob;ask ann;answer ann a;"
                + "pass 30;ask bob;answer bob a;");
        Check.same("41: now", x.tokensAfter(0), 2);
        Check.same("41: 59", x.tokensAfter(59), 2);
        Check.same("41: 60", x.tokensAfter(60), 1);
        Check.same("41: 89", x.tokensAfter(89), 1);
        Check.same("41: 90", x.tokensAfter(90), 0);
        Check.same("41: 1440", x.tokensAfter(1440), 0);
        Check.same("41: a question changes nothing", x.tokenCount() + " " + x.minute(), "2 30");
    }

    private static void insideAfter() {
        VegetableBouncer x = Bouncers.loaded("bouncer 1 90;riddle a 0;guest ann;guest bob;guest cid;"
                + "ask ann;answer ann a;ask bob;answer bob a;ask cid;answer cid a;"
                + "door west 23 2 1;door east 0 3 1;door mid 5 5 1;enter ann west;enter bob east;enter cid mid;");
        Check.same("42: now", x.insideAfter(0), 3);
        Check.same("42: 119", x.insideAfter(119), 3);
        Check.same("42: 120", x.insideAfter(120), 2);
        Check.same("42: 179", x.insideAfter(179), 2);
        Check.same("42: 180", x.insideAfter(180), 1);
        Check.same("42: nobody comes back", x.insideAfter(1440), 1);
        Check.same("42: a question changes nothing", x.insideOf(0) + " " + x.shownOut() + " " + x.minute(), "1 0 0");
    }

    private static void wrongArguments() {
        VegetableBouncer x = new VegetableBouncer();
        GuestTest.forWrongGuests("39: minutesUntilAsk", guest -> x.minutesUntilAsk(guest));
        GuestTest.forWrongGuests("40: minutesUntilEnter", guest -> x.minutesUntilEnter(guest));
        for (int minutes : new int[] {-1, 1441, Integer.MIN_VALUE, Integer.MAX_VALUE}) {
            Check.refuses("41: tokensAfter(" + minutes + ")", IllegalArgumentException.class,
                    () -> x.tokensAfter(minutes));
            Check.refuses("42: insideAfter(" + minutes + ")", IllegalArgumentException.class,
                    () -> x.insideAfter(minutes));
        }
    }
}
