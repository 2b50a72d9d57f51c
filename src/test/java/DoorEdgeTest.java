/** The boundary cases of time, doors and what a passing minute does. */
final class DoorEdgeTest {
    private static final String INSIDE = "riddle beet 0;guest a;guest b;ask a;answer a beet;";
    private static final String ALL = "riddle beet 0;guest a;guest b;guest c;guest d;guest e;guest f;guest g;guest h;";

    private DoorEdgeTest() {
    }

    static void run() {
        hourComesAfterSixtyMinutes();
        everyPairOfHours();
        hoursOfADayAreOneTo24();
        opensAndClosesInAtMost23Hours();
        roomForOneToNine();
        fullestDoor();
        firstReasonNotToEnter();
        enterAtTheEdgesOfTheHours();
        shownOutAtTheClosingHour();
        aMinuteTakesTokensAndShowsOut();
        setHoursShowsOut();
        bestDoor();
        passOneTo999Minutes();
        passCountsTheTokens();
    }

    /** "The hour is the minute number divided by 60, rounded down, modulo 24." */
    private static void hourComesAfterSixtyMinutes() {
        int[] minutes = {0, 1, 59, 60, 61, 119, 120, 1379, 1380, 1439, 1440, 1441, 1499, 1500, 2879, 2880, 50399,
            50400};
        int[] due = {0, 0, 0, 1, 1, 1, 2, 22, 23, 23, 0, 0, 0, 1, 23, 0, 23, 0};
        for (int index = 0; index < minutes.length; index++) {
            VegetableBouncer x = Bouncers.loaded("bouncer 1 1;");
            Houses.passMany(x, minutes[index]);
            Check.same("7, 8: minute " + minutes[index], x.minute() + " " + x.hour(),
                    minutes[index] + " " + due[index]);
        }
    }

    /** Walks from the opening hour up to, but without, the closing hour; if both are the same, through all 24. */
    private static boolean[] openHours(int opens, int closes) {
        boolean[] open = new boolean[24];
        int hour = opens;
        do {
            open[hour] = true;
            hour = hour == 23 ? 0 : hour + 1;
        } while (hour != closes);
        return open;
    }

    private static int untilHour(boolean[] open, boolean isWanted, int minute) {
        for (int minutes = 0; minutes < 1440; minutes++) {
            if (open[(minute + minutes) / 60 % 24] == isWanted) {
                return minutes;
            }
        }
        return -1;
    }

    /** "open in the hours from the opening hour up to, but without, the closing hour", at both ends of each hour. */
    private static void everyPairOfHours() {
        for (int minute = 0; minute < 1440; minute += minute % 60 == 0 ? 59 : 1) {
            for (int opens = 0; opens < 24; opens++) {
                VegetableBouncer x = Bouncers.loaded("bouncer 1 1;door w 5 6 1;pass " + minute / 2 + ";pass "
                        + (minute - minute / 2) + ";");
                for (int closes = 0; closes < 24; closes++) {
                    x.setHours(0, opens, closes);
                    boolean[] open = openHours(opens, closes);
                    String due = open[minute / 60] + " " + untilHour(open, true, minute) + " "
                            + untilHour(open, false, minute);
                    String got = x.isOpen(0) + " " + x.opensIn(0) + " " + x.closesIn(0);
                    Check.same("30, 32, 33: " + opens + "-" + closes + " at minute " + minute, got, due);
                }
            }
        }
    }

    /** "the number of hours of a day in which it is open, 1 to 24" */
    private static void hoursOfADayAreOneTo24() {
        for (int opens = 0; opens < 24; opens++) {
            VegetableBouncer x = Bouncers.loaded("bouncer 1 1;door w 5 6 1;");
            for (int closes = 0; closes < 24; closes++) {
                x.setHours(0, opens, closes);
                int due = 0;
                for (boolean isOpen : openHours(opens, closes)) {
                    due += isOpen ? 1 : 0;
                }
                Check.same("31: " + opens + "-" + closes, x.hoursOpen(0), due);
            }
        }
        VegetableBouncer x = Bouncers.loaded("bouncer 1 1;door a 0 1 1;door b 23 0 1;door c 0 23 1;door d 7 7 1;");
        Check.same("31: 1, 1, 23 and 24",
                x.hoursOpen(0) + " " + x.hoursOpen(1) + " " + x.hoursOpen(2) + " " + x.hoursOpen(3), "1 1 23 24");
    }

    private static String times(VegetableBouncer x) {
        return x.isOpen(0) + " " + x.opensIn(0) + " " + x.closesIn(0);
    }

    /** "0 if it is open"; "0 if it is closed, -1 if it is always open": the longest times, the shortest, and none. */
    private static void opensAndClosesInAtMost23Hours() {
        VegetableBouncer x = Bouncers.loaded("bouncer 1 1;door w 23 0 1;");
        Check.same("32, 33: closed for 23 hours", times(x), "false 1380 0");
        Houses.passMany(x, 1379);
        Check.same("32, 33: opens in a minute", times(x), "false 1 0");
        x.pass(1);
        Check.same("32, 33: opens now", times(x), "true 0 60");
        x.pass(59);
        Check.same("32, 33: closes in a minute", times(x), "true 0 1");
        x.pass(1);
        Check.same("32, 33: closes now", times(x), "false 1380 0");
        VegetableBouncer y = Bouncers.loaded("bouncer 1 1;door w 0 23 1;");
        Check.same("32, 33: open for 23 hours", times(y), "true 0 1380");
        Houses.passMany(y, 1380);
        Check.same("32, 33: closes for an hour", times(y), "false 60 0");
        Houses.passMany(y, 60);
        Check.same("32, 33: opens again", times(y), "true 0 1380");
        for (int hour = 0; hour < 24; hour++) {
            Check.same("32, 33: always open", times(Bouncers.loaded("bouncer 1 1;door w " + hour + " " + hour + " 1;")),
                    "true 0 -1");
        }
    }

    private static VegetableBouncer allWithTokens(String door) {
        VegetableBouncer x = Bouncers.loaded("bouncer 1 99;" + ALL + door);
        for (int guest = 0; guest < 8; guest++) {
            x.ask(guest);
            Bouncers.answer(x, guest, "beet");
        }
        return x;
    }

    /** "room for 1 to 9 guests"; "4 as many guests are inside the door as it has room for" */
    private static void roomForOneToNine() {
        for (int room = 1; room <= 9; room++) {
            VegetableBouncer x = allWithTokens("door v 0 0 1;door w 0 0 " + room + ";");
            for (int guest = 0; guest < 8; guest++) {
                boolean isFull = guest >= room;
                Check.same("34, 35: room " + room, x.insideOf(1) + " " + x.roomLeft(1),
                        Math.min(guest, room) + " " + Math.max(room - guest, 0));
                Check.same("37: room " + room, x.enterRefusal(guest, 1), isFull ? 4 : 0);
                if (isFull) {
                    int refused = guest;
                    Check.refuses("54: full", IllegalStateException.class, () -> x.enter(refused, 1));
                    Check.same("54: refused", x.doorOf(guest) + " " + x.tokenLeft(guest), "-1 99");
                } else {
                    Check.same("54: room " + room, x.enter(guest, 1), guest + 1);
                    Check.same("54: inside", x.doorOf(guest) + " " + x.tokenLeft(guest), "1 0");
                }
            }
            Check.same("34, 35: the other door", x.insideOf(0) + " " + x.roomLeft(0), "0 1");
            Check.same("55: a place again", x.leave(0) + " " + x.roomLeft(1), "1 " + (room - Math.min(room, 8) + 1));
        }
    }

    /** "among several the one with the smallest number, -1 if there are no doors" */
    private static void fullestDoor() {
        Check.same("45: no doors", Bouncers.loaded("bouncer 1 1;" + ALL).fullestDoor(), -1);
        VegetableBouncer x = allWithTokens("door p 0 0 9;door q 0 0 9;door r 0 0 9;door s 0 0 9;");
        int[] doors = {3, 2, 1, 0, 3, 2, 2, 3};
        int[] due = {3, 2, 1, 0, 3, 2, 2, 2};
        Check.same("45: nobody inside", x.fullestDoor(), 0);
        for (int guest = 0; guest < 8; guest++) {
            x.enter(guest, doors[guest]);
            Check.same("45: after guest " + guest, x.fullestDoor(), due[guest]);
        }
    }

    private static void refusal(String text, int guest, int due) {
        VegetableBouncer x = Bouncers.loaded(text);
        Check.same("37: " + text, x.enterRefusal(guest, 0), due);
        Check.same("38: " + text, x.bestDoor(guest) == 0, due == 0);
        if (due == 0) {
            int before = x.insideOf(0);
            Check.same("54: " + text, x.enter(guest, 0), before + 1);
        } else {
            Unchanged.refusedNow("54: " + text, () -> Houses.dressed(text), y -> y.enter(guest, 0));
        }
    }

    /** "Entering a door is refused for the first of these reasons that applies", 1 to 4, and 0 beside each. */
    private static void firstReasonNotToEnter() {
        String token = "bouncer 1 99;" + INSIDE;
        refusal(token + "door w 0 0 2;enter a w;", 0, 1);
        refusal(token + "door w 0 0 1;enter a w;", 0, 1);
        refusal(token + "door w 1 2 2;door v 0 0 1;enter a v;", 0, 1);
        refusal(token + "ask b;answer b beet;door w 0 0 1;door v 0 0 1;enter b w;enter a v;", 0, 1);
        refusal(token + "door w 0 0 2;enter a w;leave a;", 0, 2);
        refusal(token + "door w 0 0 2;", 1, 2);
        refusal(token + "door w 1 2 2;", 1, 2);
        refusal(token + "door w 0 0 1;enter a w;", 1, 2);
        refusal(token + "ask b;door w 0 0 2;", 1, 2);
        refusal(token + "door w 1 0 2;", 0, 3);
        refusal(token + "door w 23 0 2;", 0, 3);
        refusal(token + "door w 0 0 2;hours w 5 6;", 0, 3);
        refusal(token + "ask b;answer b beet;door w 0 0 1;enter b w;", 0, 4);
        refusal(token + "ask b;answer b beet;door w 0 0 2;enter b w;", 0, 0);
        refusal(token + "ask b;answer b beet;door w 0 0 1;enter b w;leave b;", 0, 0);
        refusal(token + "door w 0 1 1;", 0, 0);
        refusal(token + "door w 23 1 1;", 0, 0);
    }

    /** The first and the last minute in which a door is open, and those beside them. */
    private static void enterAtTheEdgesOfTheHours() {
        int[] minutes = {118, 119, 120, 121, 178, 179, 180, 181};
        int[] due = {3, 3, 0, 0, 0, 0, 3, 3};
        for (int index = 0; index < minutes.length; index++) {
            refusal("bouncer 1 9;door w 2 3 1;pass " + minutes[index] + ";" + INSIDE, 0, due[index]);
        }
        int[] night = {1379, 1380, 1439, 1440, 1499, 1500};
        int[] dueAtNight = {3, 0, 0, 0, 0, 3};
        for (int index = 0; index < night.length; index++) {
            refusal("bouncer 1 9;door w 23 1 1;pass 999;pass " + (night[index] - 999) + ";" + INSIDE, 0,
                    dueAtNight[index]);
        }
    }

    /** "each guest who is inside a door that is closed now is shown out" */
    private static void shownOutAtTheClosingHour() {
        int[][] cases = {{0, 1, 60}, {0, 23, 1380}, {23, 1, 60}, {1, 2, 0}, {5, 3, 180}, {1, 0, 0}};
        for (int[] one : cases) {
            String text = "bouncer 1 99;" + INSIDE + "door w 0 0 1;enter a w;hours w " + one[0] + " " + one[1] + ";";
            VegetableBouncer x = Bouncers.loaded(text);
            int closes = one[2];
            Check.same("42: " + text, x.insideAfter(closes), 0);
            if (closes > 0) {
                Check.same("42: the minute before", x.insideAfter(closes - 1), 1);
                Houses.passMany(x, closes - 1);
                Check.same("17, 47: still inside", x.doorOf(0) + " " + x.shownOut() + " " + x.closesIn(0), "0 0 1");
                x.pass(1);
            }
            Check.same("17, 47: shown out", x.doorOf(0) + " " + x.shownOut() + " " + x.insideOf(0), "-1 1 0");
            x.pass(999);
            x.pass(999);
            Check.same("47: counted once", x.shownOut() + " " + x.tokenLeft(0), "1 0");
        }
        VegetableBouncer x = Bouncers.loaded("bouncer 1 99;" + INSIDE + "door w 7 7 1;enter a w;");
        Houses.passMany(x, 3000);
        Check.same("17, 47: always open", x.doorOf(0) + " " + x.shownOut() + " " + x.insideAfter(1440), "0 0 1");
    }

    /** "Then each token that expires in this minute is taken away, and each guest .. is shown out.", both at once. */
    private static void aMinuteTakesTokensAndShowsOut() {
        VegetableBouncer x = Bouncers.loaded("bouncer 1 60;" + ALL
                + "ask a;answer a beet;ask b;answer b beet;ask c;answer c beet;door w 0 1 9;door v 0 0 9;"
                + "enter a w;enter b w;pass 1;ask d;answer d beet;");
        Check.same("59: nothing yet", x.pass(58) + " " + x.tokenCount() + " " + x.insideOf(0), "0 2 2");
        Check.same("59: both", x.pass(1) + " " + x.tokenCount() + " " + x.insideOf(0) + " " + x.shownOut(), "1 1 0 2");
        Check.same("37: no token in the last minute", x.enterRefusal(2, 1) + " " + x.enterRefusal(3, 1), "2 0");
        Check.same("59: the last token", x.pass(1) + " " + x.tokenCount(), "1 0");
        Check.same("47: once", x.shownOut(), 2);
    }

    /** "If it is closed afterwards, the guests inside are shown out.": the hours next to the hour of now. */
    private static void setHoursShowsOut() {
        int[][] hours = {{2, 3}, {1, 3}, {2, 2}, {3, 3}, {3, 2}, {1, 2}, {3, 4}, {23, 3}, {23, 2}, {0, 23}, {23, 0}};
        int[] due = {0, 0, 0, 0, 2, 2, 2, 0, 2, 0, 2};
        for (int index = 0; index < hours.length; index++) {
            VegetableBouncer x = Bouncers.loaded("bouncer 1 99;pass 120;" + INSIDE + "ask b;answer b beet;"
                    + "door w 0 0 3;enter a w;enter b w;");
            int opens = hours[index][0];
            int closes = hours[index][1];
            Check.same("58: " + opens + "-" + closes, x.setHours(0, opens, closes), due[index]);
            Check.same("58: inside", x.insideOf(0) + " " + x.shownOut() + " " + x.isOpen(0),
                    (2 - due[index]) + " " + due[index] + " " + (due[index] == 0));
            Check.same("58: nobody is left to show out", x.setHours(0, 4, 5), 2 - due[index]);
            Check.same("58: the sum", x.shownOut(), 2);
        }
    }

    private static void best(String doors, int due) {
        VegetableBouncer x = Bouncers.loaded("bouncer 1 99;pass 120;" + INSIDE + doors);
        Check.same("38: " + doors, x.bestDoor(0), due);
    }

    /** "one that is always open before all others ..., among several the one with the smallest number, -1 if none" */
    private static void bestDoor() {
        best("", -1);
        best("door p 3 2 1;", -1);
        best("door p 2 3 1;", 0);
        best("door p 2 3 1;door q 2 4 1;", 1);
        best("door p 2 3 1;door q 1 3 1;door r 0 3 1;", 0);
        best("door p 2 3 1;door q 1 3 1;door r 0 4 1;door s 2 4 1;", 2);
        best("door p 3 2 1;door q 2 1 1;door r 2 2 1;door s 0 0 1;", 2);
        best("door p 3 2 1;door q 3 1 1;door r 23 3 1;door s 2 1 1;", 3);
        best("door p 5 5 1;door q 6 6 1;", 0);
        best("ask b;answer b beet;door p 5 5 1;enter b p;door q 2 3 1;", 1);
        best("ask b;answer b beet;door p 5 5 1;enter b p;door q 3 2 1;", -1);
        best("door p 5 5 1;pass 98;", 0);
        best("door p 5 5 1;pass 99;", -1);
        best("door p 5 5 1;enter a p;", -1);
    }

    /** "minutes: 1 to 999" */
    private static void passOneTo999Minutes() {
        for (int minutes : new int[] {1, 2, 998, 999}) {
            VegetableBouncer x = new VegetableBouncer();
            Check.same("59: pass(" + minutes + ")", x.pass(minutes) + " " + x.minute(), "0 " + (8 + minutes));
        }
        for (int minutes : new int[] {0, -1, 1000, 1001, Integer.MIN_VALUE, Integer.MAX_VALUE}) {
            Unchanged.refusedArgument("59: pass(" + minutes + ")", Houses::busy, x -> x.pass(minutes));
        }
    }

    /** "Returns the number of tokens that expired in these minutes.": none, some, all, and none that was given away. */
    private static void passCountsTheTokens() {
        int[] minutes = {1, 98, 99, 100, 999};
        int[] due = {0, 0, 8, 8, 8};
        for (int index = 0; index < minutes.length; index++) {
            VegetableBouncer x = allWithTokens("");
            Check.same("59: in " + minutes[index], x.pass(minutes[index]) + " " + x.tokenCount(),
                    due[index] + " " + (8 - due[index]));
        }
        for (int inside = 0; inside <= 8; inside++) {
            VegetableBouncer x = allWithTokens("door w 0 1 9;");
            for (int guest = 0; guest < inside; guest++) {
                x.enter(guest, 0);
            }
            Check.same("59: " + inside + " gave theirs away", x.pass(99) + " " + x.shownOut(),
                    (8 - inside) + " " + inside);
            Check.same("59: nothing is left", x.pass(999) + " " + x.shownOut(), "0 " + inside);
        }
    }
}
