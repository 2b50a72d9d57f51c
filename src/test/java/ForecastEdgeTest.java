import java.util.function.Consumer;

/** The boundary cases of the questions about the future, and that questions change nothing: promises 39 to 42. */
final class ForecastEdgeTest {
    private static final String ASKED = "riddle beet 0;guest a;guest b;";

    private ForecastEdgeTest() {
    }

    static void run() {
        untilAskUpTo1440();
        untilAskInsideADoor();
        untilAskNever();
        untilEnterWhileTheTokenLasts();
        untilEnterAFullDoor();
        untilEnterOneOfSeveral();
        untilEnterNever();
        minutesFrom0To1440();
        insideAfterTheClosingHour();
        whatTheForecastSaysComes();
        questionsChangeNothing();
    }

    /** "the smallest number of minutes, 0 to 1440, after which the guest could be asked; -1 if there is none" */
    private static void untilAskUpTo1440() {
        int[] left = {1920, 1442, 1441, 1440, 1439, 2, 1, 0};
        int[] due = {-1, -1, -1, 1440, 1439, 2, 1, 0};
        for (int index = 0; index < left.length; index++) {
            VegetableBouncer x = GuestTest.withFailures("bouncer 30 9;" + ASKED, 7);
            Houses.passMany(x, 1920 - left[index]);
            Check.same("11: left", x.waitLeft(0), left[index]);
            Check.same("39: " + left[index], x.minutesUntilAsk(0), due[index]);
        }
        for (int minutes : new int[] {1, 998, 999}) {
            String token = "bouncer 1 " + minutes + ";" + ASKED + "ask a;answer a beet;";
            Check.same("39: a token of " + minutes, Bouncers.loaded(token).minutesUntilAsk(0), minutes);
        }
    }

    private static String inside(int minute, String hours) {
        return "bouncer 1 99;" + ASKED + "pass " + minute + ";ask a;answer a beet;door w 0 0 1;enter a w;hours w "
                + hours + ";";
    }

    /** A guest inside could be asked when the door is closed. */
    private static void untilAskInsideADoor() {
        Check.same("39: 23 hours", Bouncers.loaded(inside(0, "0 23")).minutesUntilAsk(0), 1380);
        Check.same("39: one hour", Bouncers.loaded(inside(0, "0 1")).minutesUntilAsk(0), 60);
        Check.same("39: the last minute", Bouncers.loaded(inside(59, "0 1")).minutesUntilAsk(0), 1);
        Check.same("39: closed", Bouncers.loaded(inside(60, "0 1")).minutesUntilAsk(0), 0);
        Check.same("39: over midnight", Bouncers.loaded(inside(0, "23 1")).minutesUntilAsk(0), 60);
        Check.same("39: always open", Bouncers.loaded(inside(0, "5 5")).minutesUntilAsk(0), -1);
    }

    /** "-1 if there is none": what no minute changes. */
    private static void untilAskNever() {
        Check.same("39: a riddle", Bouncers.loaded("bouncer 1 9;" + ASKED + "ask a;").minutesUntilAsk(0), -1);
        Check.same("39: no riddles", Bouncers.loaded("bouncer 1 9;guest a;").minutesUntilAsk(0), -1);
        String failing = "bouncer 1 9;" + ASKED + Houses.failing("a", 10);
        Check.same("39: banned", Bouncers.loaded(failing).minutesUntilAsk(0), -1);
        Check.same("39: banned, no wait", Bouncers.loaded(failing + "pass 512;").minutesUntilAsk(0), -1);
        Check.same("39: nine failures",
                Bouncers.loaded("bouncer 1 9;" + ASKED + Houses.failing("a", 9)).minutesUntilAsk(0), 256);
        Check.same("39: the other guest", Bouncers.loaded(failing).minutesUntilAsk(1), 0);
    }

    private static void untilEnter(String text, int due) {
        Check.same("40: " + text, Bouncers.loaded(text).minutesUntilEnter(0), due);
    }

    /** "after which the guest could enter some door": not in the minute in which the token expires. */
    private static void untilEnterWhileTheTokenLasts() {
        String token = ASKED + "ask a;answer a beet;";
        untilEnter("bouncer 1 999;door w 17 18 1;pass 22;" + token, 998);
        untilEnter("bouncer 1 999;door w 17 18 1;pass 21;" + token, -1);
        untilEnter("bouncer 1 999;door w 17 18 1;pass 20;" + token, -1);
        untilEnter("bouncer 1 998;door w 17 18 1;pass 22;" + token, -1);
        untilEnter("bouncer 1 998;door w 17 18 1;pass 23;" + token, 997);
        untilEnter("bouncer 1 1;door w 1 2 1;pass 59;" + token, -1);
        untilEnter("bouncer 1 2;door w 1 2 1;pass 59;" + token, 1);
        untilEnter("bouncer 1 1;door w 1 2 1;pass 60;" + token, 0);
        untilEnter("bouncer 1 1;door w 1 2 1;pass 119;" + token, 0);
        untilEnter("bouncer 1 999;door w 1 2 1;pass 120;" + token, -1);
        untilEnter("bouncer 1 1;door w 5 5 1;" + token, 0);
    }

    /** A full door has room when all were shown out and it opens again. */
    private static void untilEnterAFullDoor() {
        String full = ASKED + "ask a;answer a beet;ask b;answer b beet;door w 0 0 1;enter b w;";
        untilEnter("bouncer 1 999;" + full, -1);
        untilEnter("bouncer 1 999;" + full + "hours w 12 11;", 720);
        untilEnter("bouncer 1 720;" + full + "hours w 12 11;", -1);
        untilEnter("bouncer 1 721;" + full + "hours w 12 11;", 720);
        untilEnter("bouncer 1 999;" + full + "hours w 0 23;", -1);
        untilEnter("bouncer 1 999;" + full + "hours w 2 1;", 120);
        untilEnter("bouncer 1 999;" + full + "hours w 1 0;", 60);
        untilEnter("bouncer 1 999;" + full + "hours w 2 1;pass 59;", 61);
        untilEnter("bouncer 1 999;" + full + "hours w 2 1;pass 60;", 60);
        untilEnter("bouncer 1 999;" + full + "leave b;", 0);
        untilEnter("bouncer 1 999;" + full.replace("0 0 1", "0 0 2"), 0);
    }

    private static void untilEnterOneOfSeveral() {
        String full = ASKED + "ask a;answer a beet;ask b;answer b beet;door w 0 0 1;enter b w;hours w 5 3;";
        untilEnter("bouncer 1 999;" + full, 300);
        untilEnter("bouncer 1 999;" + full + "door v 4 5 1;", 240);
        untilEnter("bouncer 1 999;" + full + "door v 6 7 1;", 300);
        untilEnter("bouncer 1 999;" + full + "door v 6 7 1;door u 1 2 1;door t 2 3 1;", 60);
        untilEnter("bouncer 1 999;" + full + "door v 6 7 1;door u 1 2 1;door t 0 1 1;", 0);
    }

    /** "-1 if there is none" */
    private static void untilEnterNever() {
        untilEnter("bouncer 1 999;" + ASKED + "ask a;answer a beet;", -1);
        untilEnter("bouncer 1 999;" + ASKED + "door w 0 0 1;", -1);
        untilEnter("bouncer 1 999;" + ASKED + "ask a;door w 0 0 1;", -1);
        untilEnter("bouncer 1 999;" + ASKED + "ask a;answer a beet;door w 0 0 2;enter a w;", -1);
        untilEnter("bouncer 1 9;" + ASKED + "ask a;answer a beet;door w 0 0 2;pass 9;", -1);
        untilEnter("bouncer 1 9;" + ASKED + "ask a;answer a beet;door w 0 0 2;pass 8;", 0);
    }

    /** "minutes: 0 to 1440" */
    private static void minutesFrom0To1440() {
        String text = "bouncer 1 999;" + ASKED + "door w 0 0 1;ask a;answer a beet;ask b;answer b beet;enter b w;";
        int[] minutes = {0, 1, 998, 999, 1439, 1440};
        int[] tokens = {1, 1, 1, 0, 0, 0};
        VegetableBouncer x = Bouncers.loaded(text);
        for (int index = 0; index < minutes.length; index++) {
            Check.same("41: " + minutes[index], x.tokensAfter(minutes[index]), tokens[index]);
            Check.same("42: " + minutes[index], x.insideAfter(minutes[index]), 1);
        }
        for (int wrong : new int[] {-1, 1441, Integer.MIN_VALUE, Integer.MAX_VALUE}) {
            Unchanged.refusedArgument("41: " + wrong, () -> Houses.dressed(text), y -> y.tokensAfter(wrong));
            Unchanged.refusedArgument("42: " + wrong, () -> Houses.dressed(text), y -> y.insideAfter(wrong));
        }
        VegetableBouncer none = Bouncers.loaded(Houses.EMPTY);
        Check.same("41, 42: no guests", none.tokensAfter(0) + " " + none.tokensAfter(1440) + " " + none.insideAfter(0)
                + " " + none.insideAfter(1440), "0 0 0 0");
    }

    /** Whoever was shown out stays outside when the door opens again. */
    private static void insideAfterTheClosingHour() {
        VegetableBouncer x = Bouncers.loaded(inside(0, "23 1"));
        Check.same("42: edges", x.insideAfter(59) + " " + x.insideAfter(60) + " " + x.insideAfter(61), "1 0 0");
        Check.same("42: open again", x.insideAfter(1379) + " " + x.insideAfter(1380) + " " + x.insideAfter(1440),
                "0 0 0");
        VegetableBouncer y = Bouncers.loaded(inside(0, "0 23"));
        Check.same("42: 23 hours", y.insideAfter(1379) + " " + y.insideAfter(1380) + " " + y.insideAfter(1440),
                "1 0 0");
    }

    /** "A question about the future assumes that only minutes pass.": each is held against passing them. */
    private static void whatTheForecastSaysComes() {
        String text = "bouncer 7 100;" + ASKED + "guest c;guest d;door w 23 1 1;door v 2 3 2;ask a;answer a beet;"
                + "enter a w;pass 30;ask b;answer b beet;ask c;answer c x;";
        for (int minutes = 0; minutes <= 300; minutes++) {
            VegetableBouncer x = Bouncers.loaded(text);
            String due = x.tokensAfter(minutes) + " " + x.insideAfter(minutes);
            boolean[] areAsked = {x.minutesUntilAsk(0) <= minutes, x.minutesUntilAsk(1) <= minutes,
                x.minutesUntilAsk(2) <= minutes};
            boolean isEntered = x.minutesUntilEnter(1) == minutes;
            Houses.passMany(x, minutes);
            Check.same("41, 42: after " + minutes, x.tokenCount() + " " + (x.insideOf(0) + x.insideOf(1)), due);
            for (int guest = 0; guest < 3; guest++) {
                Check.same("39: guest " + guest + " after " + minutes, x.askRefusal(guest) == 0, areAsked[guest]);
            }
            if (isEntered) {
                Check.same("40: after " + minutes, minutes + " " + x.enterRefusal(1, 1), "90 0");
            }
        }
        VegetableBouncer x = Bouncers.loaded(text);
        Check.same("39, 40: due", x.minutesUntilAsk(0) + " " + x.minutesUntilAsk(1) + " " + x.minutesUntilAsk(2) + " "
                + x.minutesUntilEnter(1), "30 100 7 90");
    }

    /** "Questions change nothing.": each question, for each guest, riddle, door and rank. */
    private static void questionsChangeNothing() {
        Consumer<VegetableBouncer> guests = x -> {
            for (int guest = 0; guest < 3; guest++) {
                Told.guest(x, guest);
                x.waitIfWrong(guest);
                x.isBanned(guest);
                x.askRefusal(guest);
                x.bestDoor(guest);
                x.minutesUntilAsk(guest);
                x.minutesUntilEnter(guest);
                x.answersToTop(guest);
                x.riddleAt(guest, 3);
                x.rankOf(guest, 3);
                x.sameRanks(guest, 0);
                x.enterRefusal(guest, 0);
                x.enterRefusal(guest, 1);
            }
        };
        Consumer<VegetableBouncer> rest = x -> {
            Told.state(x);
            Told.output(x);
            Told.error(x);
            x.hour();
            x.hardestRiddle();
            x.tokenCount();
            x.waitingCount();
            x.tokensAfter(1440);
            x.insideAfter(1440);
            x.fullestDoor();
            x.waitOfFailure(10);
            x.waitDifference();
            x.riddleDifference();
            x.rightShare();
            x.averageLevel();
        };
        Unchanged.by("questions about guests", Houses::busy, guests);
        Unchanged.by("other questions", Houses::busy, rest);
    }
}
