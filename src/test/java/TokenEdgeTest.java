/** The boundary cases of the tokens of a setup text and of the error offset: promises 4 to 6. */
final class TokenEdgeTest {
    private static final String B = SetupTextTest.B;
    private static final int AT = B.length();

    private TokenEdgeTest() {
    }

    static void run() {
        lettersFromAToZ();
        digitsFrom0To9();
        onlySpacesAndLineFeedsSeparate();
        nothingNeedsToSeparate();
        longestRuns();
        numbersOfAnyLength();
        answersOfAnyLength();
        offsetAtTheEnd();
        offsetOfAnEmptyText();
        offsetOfTheFirstByte();
        textsOf600Bytes();
        firstTokenWithAnError();
        smallestOfSeveralCodes();
        errorOfTheLatestLoad();
    }

    private static void error(String text, String due) {
        SetupTextTest.error(text, due);
    }

    private static void errorBehind(String text, int code, int offset) {
        SetupTextTest.errorBehind(text, code, offset);
    }

    private static void fine(String text) {
        SetupTextTest.fine(text);
    }

    /** "a word (a longest run of the letters a to z)" */
    private static void lettersFromAToZ() {
        for (char letter = 'a'; letter <= 'z'; letter++) {
            fine(B + "guest " + letter + ";riddle " + letter + " 1;door " + letter + letter + " 1 1 1;");
        }
        for (int sign : new int[] {'A', 'M', 'Z', 96, 123, 128, 225, 250, 255}) {
            errorBehind("guest " + (char) sign + ";", 1, 6);
            errorBehind("guest a" + (char) sign + ";", 1, 7);
            errorBehind("guest " + (char) sign + "a;", 1, 6);
        }
    }

    /** "a number (a longest run of digits ..)" */
    private static void digitsFrom0To9() {
        for (int digit = 0; digit <= 9; digit++) {
            VegetableBouncer x = Bouncers.loaded(B + "pass " + digit + ";pass 1" + digit + ";");
            Check.same("4: digit " + digit, x.minute(), 10 + 2 * digit);
        }
        for (int sign : new int[] {'/', ':', '-', '+', '.', 176, 185, 179}) {
            errorBehind("pass " + (char) sign + ";", 1, 5);
            errorBehind("pass 1" + (char) sign + ";", 1, 6);
            errorBehind("pass " + (char) sign + "1;", 1, 5);
        }
    }

    /** "Spaces (32) and line feeds (10) only separate them.": no other byte does. */
    private static void onlySpacesAndLineFeedsSeparate() {
        for (int sign = 0; sign < 256; sign++) {
            boolean isToken = sign >= 'a' && sign <= 'z' || sign >= '0' && sign <= '9' || sign == ';';
            boolean isBlank = sign == 32 || sign == 10;
            if (isBlank) {
                fine(B + (char) sign);
                fine((char) sign + B + "pass" + (char) sign + "5" + (char) sign + ";");
                errorBehind("pa" + (char) sign + "ss 5;", 1, 0);
                errorBehind("pass 5" + (char) sign + "5;", 1, 7);
            } else if (!isToken) {
                errorBehind("" + (char) sign, 1, 0);
                error((char) sign + B, "1@0");
                errorBehind("pass" + (char) sign + "5;", 1, 4);
                errorBehind("pass 5" + (char) sign + ";", 1, 6);
                errorBehind("pass 5;" + (char) sign + "pass 5;", 1, 7);
            }
        }
        fine("\n\n  \n bouncer \n 1 \n 1\n;\n\n");
    }

    /** Separators are not asked for where a run ends by itself. */
    private static void nothingNeedsToSeparate() {
        fine("bouncer1 1;riddle a1;door b1 2 3;warp a2;hours b1 2;pass5;");
        errorBehind("door b12 3;", 1, 10);
        errorBehind("pass 5pass 5;", 1, 6);
        errorBehind("guest a5;", 1, 7);
        errorBehind("guest a;;", 1, 8);
    }

    /** "a longest run": a longer word is another word, a longer number another number. */
    private static void longestRuns() {
        errorBehind("guesta;", 1, 0);
        errorBehind("gues a;", 1, 0);
        errorBehind("guests a;", 1, 0);
        errorBehind("guest ann;forgive an;", 4, 18);
        errorBehind("guest ann;forgive anna;", 4, 18);
        errorBehind("guest ann;forgive nn;", 4, 18);
        errorBehind("guest ann;forgive an n;", 4, 18);
        errorBehind("guest ann;forgive ann n;", 1, 22);
        errorBehind("riddle leek 1;warp lee 1;", 4, 19);
        errorBehind("riddle leek 1;warp leeks 1;", 4, 19);
        fine(B + "riddle leek 1;riddle lee 1;riddle leeks 1;riddle eek 1;");
        fine(B + "guest ann;guest an;door anna 1 1 1;door nn 1 1 1;");
    }

    /** "a number (a longest run of digits, of any length)" */
    private static void numbersOfAnyLength() {
        String zeros = "0".repeat(570);
        Check.same("4: zeros before 30", Bouncers.loaded("bouncer " + zeros + "30 1;").waitOfFailure(1), 30);
        Check.same("4: zeros before 999", Bouncers.loaded(B + "pass " + zeros + "999;").minute(), 999);
        Check.same("4: zeros alone", Bouncers.loaded(B + "pass " + zeros + ";").minute(), 0);
        error("bouncer " + zeros + " 1;", "2@8");
        error("bouncer " + zeros + "31 1;", "2@8");
        error("bouncer 1 " + zeros + "1000;", "2@10");
        errorBehind("pass " + zeros + "1000;", 2, 5);
        errorBehind("pass " + "9".repeat(580) + ";", 2, 5);
        errorBehind("pass 1" + zeros + ";", 2, 5);
        String[] wrapping = {"2147483648", "2147483649", "4294967296", "4294967297", "4294968295", "8589934592",
            "9223372036854775808", "18446744073709551616", "18446744073709551617",
            "340282366920938463463374607431768211457"};
        for (String number : wrapping) {
            errorBehind("pass " + number + ";", 2, 5);
            error("bouncer " + number + " 1;", "2@8");
            error("bouncer 1 " + number + ";", "2@10");
            errorBehind("door a 1 1 " + number + ";", 2, 11);
            errorBehind("door a " + number + " 1 1;", 2, 7);
            errorBehind("riddle a " + number + ";", 2, 9);
        }
    }

    /** "a guest answers with a word of any length" */
    private static void answersOfAnyLength() {
        String asked = "bouncer 3 9;riddle abcdefgh 0;guest a;ask a;";
        for (int length : new int[] {1, 7, 8, 9, 10, 16, 500}) {
            String word = "abcdefgh".repeat(63).substring(0, length);
            VegetableBouncer x = Bouncers.loaded(asked + "answer a " + word + ";");
            boolean isRight = length == 8;
            Check.same("4: an answer of " + length, x.rightAnswers(0) + " " + x.wrongAnswers(0) + " " + x.waitLeft(0),
                    isRight ? "1 0 0" : "0 1 3");
        }
        SetupTextTest.error(asked + "answer a ;", "1@53");
    }

    /** "At the end of the text it is the length of the text." */
    private static void offsetAtTheEnd() {
        for (String end : new String[] {"", " ", "\n", "   ", " \n \n"}) {
            String[] texts = {"bouncer", "bouncer 1", "bouncer 1 1", B + "guest", B + "guest a", B + "riddle a",
                B + "riddle a 1", B + "door a", B + "door a 1", B + "door a 1 1", B + "door a 1 1 1", B + "ask",
                B + "guest a;ask a", B + "guest a;answer a", B + "guest a;answer a b", B + "guest a;enter a",
                B + "guest a;leave a", B + "guest a;forgive", B + "riddle a 1;warp a", B + "door a 1 1 1;hours a 1",
                B + "pass", B + "pass 5"};
            for (String text : texts) {
                error(text + end, "1@" + (text + end).length());
            }
        }
    }

    /** "the text ends too early, or the text is empty" */
    private static void offsetOfAnEmptyText() {
        error("", "1@0");
        for (int length : new int[] {1, 2, 19, 20, 21, 599, 600}) {
            error(" ".repeat(length), "1@" + length);
            error("\n".repeat(length), "1@" + length);
        }
        VegetableBouncer x = new VegetableBouncer();
        Check.same("4: nothing was appended", x.load() + " " + x.errorCode() + "@" + x.errorOffset(), "-7 1@0");
        Check.same("1: the first state stays", Told.state(x), Told.state(new VegetableBouncer()));
    }

    /** "The error offset is the offset of the first byte of the token." */
    private static void offsetOfTheFirstByte() {
        error("   bouncers 1 1;", "1@3");
        error("bouncer    31 1;", "2@11");
        error("bouncer 1\n\n1000;", "2@11");
        errorBehind("  \n riddle  \n abcdefghi 1;", 2, 14);
        errorBehind("guest a; guest\na ;", 3, 15);
        errorBehind("ask  zoe ;", 4, 5);
        errorBehind("guest a;ask a  \n ;", 6, 17);
    }

    /** A text may fill the buffer. */
    private static void textsOf600Bytes() {
        String passes = B + "pass 9;".repeat(84);
        Check.same("4: the length of the text", passes.length(), 600);
        Check.same("4: 600 bytes", Bouncers.loaded(passes).minute(), 756);
        error(passes.substring(0, 599), "1@599");
        error(passes.substring(0, 599) + "x", "1@599");
        error(B + " ".repeat(587) + "x", "1@599");
        error(B + "pass 5;" + " ".repeat(580) + "5", "1@599");
        error(B + "pass 5" + " ".repeat(582), "1@600");
        error(B + "z".repeat(588), "1@" + AT);
        fine(B + " ".repeat(588));
        fine(B + " ".repeat(581) + "pass 5;");
    }

    /** "Parsing stops at the first token that has an error" */
    private static void firstTokenWithAnError() {
        error("bouncer 31 1000;", "2@8");
        error("bouncer 1 1000", "2@10");
        errorBehind("riddle abcdefghi 10;", 2, 7);
        errorBehind("riddle a 10", 2, 9);
        errorBehind("riddle a 1;riddle a 10;", 3, 18);
        errorBehind("guest ann;enter bob west", 4, 16);
        errorBehind("guest ann;enter ann west", 4, 20);
        errorBehind("guest ann;answer bob 5", 4, 17);
        errorBehind("warp leek 10", 4, 5);
        errorBehind("hours west 24 24", 4, 6);
        errorBehind("door a 1 1 1;hours a 24 24", 2, 21);
        errorBehind("door abcde 24 24 10", 2, 5);
        errorBehind("door a 24 24 10", 2, 7);
        errorBehind("door a 1 24 10", 2, 9);
        errorBehind("guest a;ask a;oops", 6, 13);
        errorBehind("guest a;ask a,", 1, 13);
    }

    /** "if a token has several errors, the smallest error code is reported": 1, though the statement is refused. */
    private static void smallestOfSeveralCodes() {
        errorBehind("guest a;answer a;", 1, 16);
        errorBehind("guest a;door b 1 2 1;enter a;", 1, 28);
        errorBehind("guest a;guest a b;", 3, 14);
        errorBehind("guest a;guest a", 3, 14);
        errorBehind("guest a;guest 1000;", 1, 14);
        errorBehind("bouncer 31 1000;", 1, 0);
        error("riddle abcdefghi 10;", "1@0");
        errorBehind("riddle abcdefghi 1;", 2, 7);
        errorBehind("warp abcdefghi 1;", 4, 5);
        errorBehind("ask abcde;", 4, 4);
        errorBehind("pass abcde;", 1, 5);
        errorBehind("pass 5 1000;", 1, 7);
    }

    private static String loaded(VegetableBouncer x, String text) {
        Bouncers.type(x, text);
        return x.load() + " " + Told.error(x);
    }

    /** "the error code of the latest call of load, 0 if it succeeded or if there was none"; the offset -1 */
    private static void errorOfTheLatestLoad() {
        VegetableBouncer x = new VegetableBouncer();
        Check.same("5, 6: no load", Told.error(x), "0@-1");
        Check.same("5, 6: a load that succeeds", loaded(x, B), "0 0@-1");
        Check.same("5, 6: an error at the first byte", loaded(x, "x"), "-7 1@0");
        Check.same("5, 6: another error", loaded(x, "bouncer 31 1;"), "-7 2@8");
        Check.same("5, 6: success again", loaded(x, B + "guest a;"), "1 0@-1");
        Check.same("5, 6: an error once more", loaded(x, B + "guest a;guest a;"), "-7 3@26");
        Check.same("5, 6: the highest code", loaded(x, B + "guest a;leave a;"), "-7 6@27");
        x.append(1, 2, 3, 4, 5);
        x.truncate(0);
        x.save(0);
        x.pass(5);
        x.restore(0);
        x.undo();
        Check.refuses("52: refused", IllegalStateException.class, () -> x.ask(0));
        Check.same("5, 6: other calls leave it", Told.error(x), "6@27");
    }
}
