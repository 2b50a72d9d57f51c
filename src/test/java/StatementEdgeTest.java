import java.util.Set;

/** The boundary cases of the statements of a setup text and of the error codes: promises 4 to 6. */
final class StatementEdgeTest {
    private static final String B = SetupTextTest.B;
    private static final String ASKED = "riddle beet 0;guest a;guest b;";
    private static final String TOKEN = ASKED + "ask a;answer a beet;";

    private StatementEdgeTest() {
    }

    static void run() {
        firstStatement();
        rangesOfNumbers();
        numbersAtTheEdgesCount();
        vegetablesOfOneToEightLetters();
        namesOfOneToFourLetters();
        sameVegetables();
        sameNames();
        unknownNames();
        tenRiddles();
        eightGuests();
        fourDoors();
        refusedAsk();
        refusedAskAtTheEdgeOfAWait();
        refusedEnter();
        refusedEnterAtTheEdges();
        refusedAnswer();
        refusedLeave();
        neverRefused();
        failedLoadChangesNothing();
        numberOfGuests();
    }

    private static void error(String text, String due) {
        SetupTextTest.error(text, due);
    }

    private static void errorBehind(String text, int code, int offset) {
        SetupTextTest.errorBehind(text, code, offset);
    }

    private static void fine(String text) {
        SetupTextTest.fine(text);
    }

    /** "This is the first statement, and it occurs only there." */
    private static void firstStatement() {
        fine("bouncer 1 1;");
        error("guest a;bouncer 1 1;", "1@0");
        error("pass 0;", "1@0");
        errorBehind("bouncer 1 1;", 1, 0);
        errorBehind("guest a;bouncer 1 1;", 1, 8);
        errorBehind("guest a;pass 5;bouncer", 1, 15);
    }

    /** The smallest and the largest number that is allowed, and those beside them, behind a text without an error. */
    private static void range(String before, int least, int most, String behind) {
        String offset = "@" + before.length();
        fine(before + least + behind);
        fine(before + most + behind);
        fine(before + "0" + most + behind);
        error(before + (most + 1) + behind, "2" + offset);
        error(before + most + "0" + behind, "2" + offset);
        error(before + (least == 0 ? "-1" : "" + (least - 1)) + behind, (least == 0 ? "1" : "2") + offset);
        error(before + "x" + behind, "1" + offset);
    }

    /** "2: a number is out of range", for each number of the forms. */
    private static void rangesOfNumbers() {
        range("bouncer ", 1, 30, " 1;");
        range("bouncer 1 ", 1, 999, ";");
        range(B + "riddle leek ", 0, 9, ";");
        range(B + "door west ", 0, 23, " 1 1;");
        range(B + "door west 5 ", 0, 23, " 1;");
        range(B + "door west 5 5 ", 1, 9, ";");
        range(B + "riddle leek 5;warp leek ", 0, 9, ";");
        range(B + "door west 5 5 5;hours west ", 0, 23, " 7;");
        range(B + "door west 5 5 5;hours west 7 ", 0, 23, ";");
        range(B + "pass ", 0, 999, ";");
    }

    private static void told(String what, Object got, Object due) {
        Check.same("4: " + what, got, due);
    }

    /** The last numbers that are allowed do what the others do. */
    private static void numbersAtTheEdgesCount() {
        told("base 1", Bouncers.loaded("bouncer 1 1;").waitOfFailure(10), 512);
        told("base 30", Bouncers.loaded("bouncer 30 1;").waitOfFailure(10), 15360);
        for (int minutes : new int[] {1, 2, 998, 999}) {
            told("token minutes", Bouncers.loaded("bouncer 1 " + minutes + ";" + TOKEN).tokenLeft(0), minutes);
        }
        VegetableBouncer x = Bouncers.loaded(B + "riddle leek 0;riddle beet 9;riddle pea 5;warp pea 9;"
                + "door west 0 23 1;door east 23 0 9;door mid 5 6 2;door up 5 6 2;hours mid 0 23;hours up 23 0;");
        told("warps", x.warpOf(0) + " " + x.warpOf(1) + " " + x.warpOf(2), "0 9 9");
        told("hours of west", x.hoursOpen(0) + " " + x.isOpen(0) + " " + x.closesIn(0), "23 true 1380");
        told("hours of east", x.hoursOpen(1) + " " + x.isOpen(1) + " " + x.opensIn(1), "1 false 1380");
        told("hours of mid", x.hoursOpen(2) + " " + x.isOpen(2) + " " + x.closesIn(2), "23 true 1380");
        told("hours of up", x.hoursOpen(3) + " " + x.isOpen(3) + " " + x.opensIn(3), "1 false 1380");
        told("rooms", x.roomLeft(0) + " " + x.roomLeft(1), "1 9");
        told("pass 0", Bouncers.loaded(B + "pass 0;").minute(), 0);
        told("pass 999", Bouncers.loaded(B + "pass 999;").minute(), 999);
        VegetableBouncer y = Bouncers.loaded("bouncer 1 1;" + TOKEN + "door west 0 1 1;enter a west;ask b;"
                + "answer b beet;pass 0;");
        told("pass 0 takes nothing", y.tokenLeft(1) + " " + y.doorOf(0) + " " + y.shownOut(), "1 0 0");
    }

    /** "a word of 1 to 8 letters"; "the VEGETABLE of a new riddle has more than 8 letters" */
    private static void vegetablesOfOneToEightLetters() {
        for (int length = 1; length <= 8; length++) {
            VegetableBouncer x = Bouncers.loaded(B + "riddle " + "abcdefgh".substring(0, length) + " 0;");
            told("letters", x.printRiddle(0) + Told.output(x), length + "abcdefgh".substring(0, length));
        }
        for (int length : new int[] {9, 10, 16, 100, 570}) {
            errorBehind("riddle " + "z".repeat(length) + " 0;", 2, 7);
        }
        errorBehind("riddle  0;", 1, 8);
        errorBehind("riddle a 0;warp " + "a".repeat(9) + " 0;", 4, 16);
    }

    /** "A guest has a name of 1 to 4 letters"; "A door has a name of 1 to 4 letters" */
    private static void namesOfOneToFourLetters() {
        for (int length = 1; length <= 4; length++) {
            String name = "wxyz".substring(0, length);
            VegetableBouncer x = Bouncers.loaded(B + "riddle beet 0;guest " + name + ";ask " + name + ";answer " + name
                    + " beet;door q 0 0 1;enter " + name + " q;");
            told("letters", x.printDoor(0) + Told.output(x), length + name);
            fine(B + "door " + name + " 1 1 1;hours " + name + " 1 1;");
        }
        for (int length : new int[] {5, 6, 8, 9, 100, 570}) {
            errorBehind("guest " + "z".repeat(length) + ";", 2, 6);
            errorBehind("door " + "z".repeat(length) + " 1 1 1;", 2, 5);
        }
        errorBehind("guest abcd;leave abcde;", 4, 17);
        errorBehind("door abcd 1 1 1;hours abcde 1 1;", 4, 22);
        errorBehind("guest ;", 1, 6);
        errorBehind("door  1 1 1;", 1, 6);
    }

    /** "no two riddles have the same one" */
    private static void sameVegetables() {
        errorBehind("riddle a 0;riddle a 0;", 3, 18);
        errorBehind("riddle abcdefgh 0;riddle abcdefgh 1;", 3, 25);
        fine(B + "riddle abcdefgh 0;riddle abcdefgi 0;riddle bbcdefgh 0;riddle abcdefg 0;");
        fine(B + "riddle ab 0;riddle ba 0;riddle a 0;riddle b 0;riddle abb 0;");
        fine(B + "guest leek;door beet 1 1 1;riddle leek 1;riddle beet 1;");
        fine(B + "riddle leek 1;riddle beet 1;guest leek;door beet 1 1 1;");
        String more = "riddle b 0;riddle c 0;riddle d 0;riddle e 0;riddle f 0;riddle g 0;riddle h 0;riddle i 0;";
        errorBehind("riddle a 0;" + more + "riddle a 0;", 3, 106);
        errorBehind("riddle a 0;" + more + "riddle i 0;", 3, 106);
        fine(B + "riddle a 0;" + more + "riddle j 0;");
    }

    /** "no two guests or doors have the same one" */
    private static void sameNames() {
        errorBehind("guest a;guest a;", 3, 14);
        errorBehind("guest abcd;guest abcd;", 3, 17);
        errorBehind("door a 1 1 1;door a 2 2 2;", 3, 18);
        errorBehind("guest abcd;door abcd 1 1 1;", 3, 16);
        errorBehind("door abcd 1 1 1;guest abcd;", 3, 22);
        fine(B + "guest abcd;guest abce;guest bbcd;guest abc;door bcd 1 1 1;door abdd 1 1 1;");
        errorBehind("guest a;guest b;guest c;guest d;guest e;guest f;guest g;guest g;", 3, 62);
        errorBehind("guest a;guest b;guest c;guest d;guest e;guest f;guest g;guest a;", 3, 62);
        errorBehind("door a 1 1 1;door b 1 1 1;door c 1 1 1;door c 1 1 1;", 3, 44);
        errorBehind("door a 1 1 1;door b 1 1 1;door c 1 1 1;door d 1 1 1;guest d;", 3, 58);
        errorBehind("guest a;guest b;guest c;guest d;guest e;guest f;guest g;guest h;door h 1 1 1;", 3, 69);
    }

    /** "4: a GUEST or DOOR that does not exist, or the VEGETABLE of a warp statement that no riddle has." */
    private static void unknownNames() {
        String text = "riddle leek 1;guest ann;door west 1 1 1;";
        int at = text.length();
        errorBehind(text + "ask west;", 4, at + 4);
        errorBehind(text + "ask leek;", 4, at + 4);
        errorBehind(text + "answer west leek;", 4, at + 7);
        errorBehind(text + "enter west west;", 4, at + 6);
        errorBehind(text + "enter ann ann;", 4, at + 10);
        errorBehind(text + "enter ann east;", 4, at + 10);
        errorBehind(text + "leave bob;", 4, at + 6);
        errorBehind(text + "forgive bob;", 4, at + 8);
        errorBehind(text + "warp ann 1;", 4, at + 5);
        errorBehind(text + "warp west 1;", 4, at + 5);
        errorBehind(text + "hours ann 1 1;", 4, at + 6);
        errorBehind("ask ann;guest ann;", 4, 4);
        errorBehind("hours west 1 1;door west 1 1 1;", 4, 6);
        errorBehind("warp leek 1;riddle leek 1;", 4, 5);
        fine(B + text + "forgive ann;warp leek 2;hours west 2 2;");
    }

    private static String many(String before, String letters, String behind) {
        StringBuilder text = new StringBuilder();
        for (int index = 0; index < letters.length(); index++) {
            text.append(before).append(letters.charAt(index)).append(behind);
        }
        return text.toString();
    }

    /** "There are at most 10 riddles": "the word riddle for an 11th riddle" */
    private static void tenRiddles() {
        String nine = many("riddle ", "abcdefghi", " 1;");
        String ten = nine + "riddle j 7;";
        VegetableBouncer x = Bouncers.loaded(B + ten);
        told("the tenth riddle", x.warpOf(9), 7);
        Check.noSuch("4: no eleventh riddle", () -> x.warpOf(10));
        Check.noSuch("4: nine riddles", () -> Bouncers.loaded(B + nine).warpOf(9));
        for (String eleventh : new String[] {"riddle k 1;", "riddle a 1;", "riddle abcdefghi 1;", "riddle k 10;",
            "riddle;", "riddle", "riddle 5", "riddle k 1"}) {
            errorBehind(ten + eleventh, 5, ten.length());
        }
        errorBehind(ten + "riddles k 1;", 1, ten.length());
        fine(B + ten + "guest a;door b 1 1 1;warp j 1;");
    }

    /** "There are at most 8 guests": "guest for a 9th guest" */
    private static void eightGuests() {
        String seven = many("guest ", "abcdefg", ";");
        String eight = seven + "guest h;";
        VegetableBouncer x = Bouncers.loaded(B + eight);
        told("the eighth guest", x.levelOf(7), 0);
        Check.noSuch("4: no ninth guest", () -> x.levelOf(8));
        Check.noSuch("4: seven guests", () -> Bouncers.loaded(B + seven).levelOf(7));
        for (String ninth : new String[] {"guest i;", "guest a;", "guest abcde;", "guest;", "guest", "guest 5;"}) {
            errorBehind(eight + ninth, 5, eight.length());
        }
        fine(B + eight + "riddle a 1;door i 1 1 1;forgive h;");
    }

    /** "There are at most 4 doors": "door for a 5th door" */
    private static void fourDoors() {
        String three = many("door ", "abc", " 1 2 3;");
        String four = three + "door d 1 4 9;";
        VegetableBouncer x = Bouncers.loaded(B + four);
        told("the fourth door", x.hoursOpen(3) + " " + x.roomLeft(3), "3 9");
        Check.noSuch("4: no fifth door", () -> x.isOpen(4));
        Check.noSuch("4: three doors", () -> Bouncers.loaded(B + three).isOpen(3));
        for (String fifth : new String[] {"door e 1 1 1;", "door a 1 1 1;", "door abcde 1 1 1;", "door e 24 1 1;",
            "door;", "door", "door 5"}) {
            errorBehind(four + fifth, 5, four.length());
        }
        fine(B + four + "riddle a 1;guest e;hours d 5 5;");
    }

    /** The code and the offset of the last semicolon. */
    private static void refused(String text) {
        error(text, "6@" + (text.length() - 1));
        error(text.substring(0, text.length() - 1), "1@" + (text.length() - 1));
        error(text.substring(0, text.length() - 1) + "#", "1@" + (text.length() - 1));
    }

    /** "6: the semicolon of an ask .. statement that is refused", for each of the six reasons. */
    private static void refusedAsk() {
        refused(B + TOKEN + "door w 0 0 1;enter a w;ask a;");
        refused(B + ASKED + Houses.failing("a", 10) + "ask a;");
        refused(B + ASKED + Houses.failing("a", 10) + "pass 512;ask a;");
        fine(B + ASKED + Houses.failing("a", 9) + "pass 256;ask a;");
        fine(B + ASKED + Houses.failing("a", 10) + "forgive a;ask a;");
        refused(B + TOKEN + "ask a;");
        refused(B + ASKED + "ask a;ask a;");
        refused(B + "guest a;ask a;");
        fine(B + ASKED + "ask a;ask b;");
    }

    /** "A guest waits as long as the minute number is less than the minute until which the guest waits.", in a text. */
    private static void refusedAskAtTheEdgeOfAWait() {
        String failed = "bouncer 30 5;" + ASKED + "ask a;answer a x;";
        refused(failed + "ask a;");
        refused(failed + "pass 29;ask a;");
        fine(failed + "pass 30;ask a;");
        fine(failed + "forgive a;ask a;");
        String token = "bouncer 30 5;" + TOKEN;
        refused(token + "pass 4;ask a;");
        fine(token + "pass 5;ask a;");
    }

    /** "6: the semicolon of an .. enter statement that is refused", for each of the four reasons. */
    private static void refusedEnter() {
        refused(B + TOKEN + "door w 0 0 2;enter a w;enter a w;");
        refused(B + TOKEN + "door w 0 0 2;door v 0 0 2;enter a w;enter a v;");
        refused(B + TOKEN + "door w 0 0 2;enter b w;");
        refused(B + TOKEN + "door w 1 0 2;enter a w;");
        refused(B + TOKEN + "ask b;answer b beet;door w 0 0 1;enter a w;enter b w;");
        fine(B + TOKEN + "ask b;answer b beet;door w 0 0 2;enter a w;enter b w;");
        fine(B + TOKEN + "ask b;answer b beet;door w 0 0 1;enter a w;leave a;enter b w;");
    }

    /** A token lasts to the minute before it expires; a door is open to the minute before its closing hour. */
    private static void refusedEnterAtTheEdges() {
        fine("bouncer 1 5;" + TOKEN + "door w 0 0 1;pass 4;enter a w;");
        refused("bouncer 1 5;" + TOKEN + "door w 0 0 1;pass 5;enter a w;");
        fine("bouncer 1 99;door w 0 1 1;pass 50;" + TOKEN + "pass 9;enter a w;");
        refused("bouncer 1 99;door w 0 1 1;pass 50;" + TOKEN + "pass 10;enter a w;");
        refused("bouncer 1 99;door w 1 2 1;pass 50;" + TOKEN + "pass 9;enter a w;");
        fine("bouncer 1 99;door w 1 2 1;pass 50;" + TOKEN + "pass 10;enter a w;");
    }

    /** "of an answer statement if the guest has no riddle" */
    private static void refusedAnswer() {
        refused(B + ASKED + "answer a beet;");
        refused(B + ASKED + "ask b;answer a beet;");
        refused(B + TOKEN + "answer a beet;");
        refused(B + ASKED + "ask a;answer a x;answer a x;");
        refused(B + "guest a;answer a x;");
        fine(B + ASKED + "ask b;answer b beet;");
    }

    /** "or of a leave statement if the guest is outside" */
    private static void refusedLeave() {
        refused(B + ASKED + "leave a;");
        refused(B + TOKEN + "leave a;");
        refused(B + TOKEN + "door w 0 0 1;enter a w;leave b;");
        refused(B + TOKEN + "door w 0 0 1;enter a w;leave a;leave a;");
        refused("bouncer 1 99;" + TOKEN + "door w 0 1 1;enter a w;pass 60;leave a;");
        fine("bouncer 1 99;" + TOKEN + "door w 0 1 1;enter a w;pass 59;leave a;");
        refused(B + TOKEN + "door w 0 0 1;enter a w;hours w 1 0;leave a;");
        fine(B + TOKEN + "door w 0 0 1;enter a w;hours w 0 1;leave a;");
    }

    /** The other statements have no semicolon that is refused. */
    private static void neverRefused() {
        fine(B + ASKED + "forgive a;forgive a;warp beet 0;warp beet 0;pass 0;pass 0;");
        fine(B + "door w 0 0 1;hours w 0 0;hours w 5 6;hours w 5 6;");
    }

    /** "If the text has no error, the state described by it replaces the current one.": else it stays. */
    private static void failedLoadChangesNothing() {
        String[] texts = {"", "x", "bouncer 31 1;", Houses.FULL + "guest i;", Houses.FULL + "pass 999;ask a;ask a;",
            B + "guest ann;guest ann;", B + "guest zoe;warp leek 1;", B + "riddle leek 9;guest ann;ask ann;ask ann;",
            B + "pass 999;pass 1000;", B + "door w 0 0 1"};
        for (String text : texts) {
            Unchanged.but(Set.of("error", "buffer"), "4: \"" + text + "\"", () -> Houses.busyWith(text), x -> x.load());
            VegetableBouncer x = Houses.busyWith(text);
            told("failed", x.load(), VegetableBouncer.PARSE_ERROR);
            told("emptied", Told.bufferLength(x), 0);
        }
    }

    /** "Returns the number of guests, or PARSE_ERROR if the text has an error." */
    private static void numberOfGuests() {
        for (int guests = 0; guests <= 8; guests++) {
            VegetableBouncer x = Houses.busyWith(B + many("guest ", "abcdefgh".substring(0, guests), ";"));
            told("guests", x.load() + " " + Told.error(x), guests + " 0@-1");
        }
        VegetableBouncer x = Houses.busyWith(B + many("guest ", "abcdefghi", ";"));
        told("nine guests", x.load() + " " + Told.error(x), "-7 5@76");
        Check.same("4: PARSE_ERROR", VegetableBouncer.PARSE_ERROR, -7);
    }
}
