/** Promises 43, 44 and 46 to 51: comparisons, sums and checks. */
final class SumTest {
    private SumTest() {
    }

    static void run() {
        sameRanks();
        answersToTop();
        waitOfFailure();
        shownOut();
        differencesAreZero();
        rightShare();
        averageLevel();
    }

    private static void sameRanks() {
        VegetableBouncer x = new VegetableBouncer();
        Check.same("43: orders 2013 and 1203", x.sameRanks(0, 1) + " " + x.sameRanks(1, 0), "1 1");
        Check.same("43: the same level", x.sameRanks(1, 2), 4);
        Check.same("43: the same guest", x.sameRanks(0, 0), 4);
        x.setWarp(3, 0);
        Check.same("43: orders 2301 and 3120", x.sameRanks(0, 1), 0);
        Check.same("43: no riddles", Bouncers.loaded("bouncer 1 1;guest a;guest b;").sameRanks(0, 1), 0);
        GuestTest.forWrongGuests("43: sameRanks", guest -> x.sameRanks(guest, 0));
        GuestTest.forWrongGuests("43: sameRanks, other", guest -> x.sameRanks(0, guest));
    }

    private static void answersToTop() {
        VegetableBouncer x = new VegetableBouncer();
        Check.same("44: levels 1 and 0", x.answersToTop(0) + " " + x.answersToTop(1), "8 9");
        VegetableBouncer y = Bouncers.loaded("bouncer 1 1;riddle a 0;guest ann;");
        for (int answers = 1; answers <= 10; answers++) {
            y.ask(0);
            Bouncers.answer(y, 0, "a");
            y.pass(1);
            Check.same("44: after " + answers, y.answersToTop(0), Math.max(9 - answers, 0));
        }
        GuestTest.forWrongGuests("44: answersToTop", guest -> x.answersToTop(guest));
    }

    private static void waitOfFailure() {
        VegetableBouncer x = new VegetableBouncer();
        int[] due = {5, 10, 20, 40, 80, 160, 320, 640, 1280, 2560};
        for (int failures = 1; failures <= 10; failures++) {
            Check.same("46: failure " + failures, x.waitOfFailure(failures), due[failures - 1]);
        }
        for (int failures : new int[] {0, 11, -1, 33, Integer.MIN_VALUE, Integer.MAX_VALUE}) {
            Check.refuses("46: failure " + failures, IllegalArgumentException.class, () -> x.waitOfFailure(failures));
        }
        Check.same("46: base 30", Bouncers.loaded("bouncer 30 1;").waitOfFailure(10), 15360);
    }

    private static void shownOut() {
        VegetableBouncer x = new VegetableBouncer();
        Check.same("47: at first", x.shownOut(), 0);
        x.pass(999);
        Check.same("47: still open", x.shownOut(), 0);
        x.pass(193);
        Check.same("47: closed", x.minute() + " " + x.shownOut() + " " + x.doorOf(0), "1200 1 -1");
        Bouncers.answer(x, 1, "beet");
        x.enter(1, 1);
        x.leave(1);
        Check.same("47: leaving does not count", x.shownOut(), 1);
        VegetableBouncer y = Bouncers.loaded("bouncer 1 9;riddle a 0;guest ann;guest bob;door west 0 1 2;"
                + "ask ann;answer ann a;ask bob;answer bob a;enter ann west;enter bob west;pass 60;");
        Check.same("47: the text counts", y.shownOut(), 2);
        Bouncers.type(y, "bouncer 1 1;");
        y.load();
        Check.same("47: a new text", y.shownOut(), 0);
    }

    private static void differences(VegetableBouncer x) {
        Check.same("48: waits", x.waitDifference(), 0);
        Check.same("49: riddles", x.riddleDifference(), 0);
    }

    private static void differencesAreZero() {
        VegetableBouncer x = new VegetableBouncer();
        differences(x);
        x.ask(2);
        differences(x);
        Bouncers.answer(x, 1, "x");
        Bouncers.answer(x, 2, "beet");
        differences(x);
        x.forgive(1);
        differences(x);
        x.ask(1);
        Bouncers.answer(x, 1, "x");
        x.forgive(0);
        x.forgive(2);
        differences(x);
        x.undo();
        differences(x);
        differences(GuestTest.withFailures("bouncer 30 1;riddle a 0;guest ann;guest bob;", 10));
        differences(Bouncers.loaded("bouncer 1 1;"));
    }

    private static void rightShare() {
        VegetableBouncer x = new VegetableBouncer();
        Check.same("50: one of three", x.rightShare(), 1.0f / 3.0f);
        Bouncers.answer(x, 1, "beet");
        Check.same("50: two of four", x.rightShare(), 0.5f);
        VegetableBouncer y = Bouncers.loaded("bouncer 1 1;riddle a 0;guest ann;");
        Check.same("50: no answers", y.rightShare(), 0.0f);
        y.ask(0);
        Check.same("50: none yet", y.rightShare(), 0.0f);
        Bouncers.answer(y, 0, "x");
        Check.same("50: none right", y.rightShare(), 0.0f);
        Check.same("50: no guests", Bouncers.loaded("bouncer 1 1;").rightShare(), 0.0f);
        y.forgive(0);
        for (int answers = 1; answers <= 6; answers++) {
            y.ask(0);
            Bouncers.answer(y, 0, "a");
            y.pass(1);
        }
        Check.same("50: six of seven", y.rightShare(), 6.0f / 7.0f);
    }

    private static void averageLevel() {
        VegetableBouncer x = new VegetableBouncer();
        Check.same("51: one of three", x.averageLevel(), 1.0 / 3.0);
        Bouncers.answer(x, 1, "beet");
        Check.same("51: two of three", x.averageLevel(), 2.0 / 3.0);
        Check.same("51: no guests", Bouncers.loaded("bouncer 1 1;").averageLevel(), 0.0);
        VegetableBouncer y = Bouncers.loaded("bouncer 1 1;riddle a 0;guest ann;guest bob;");
        for (int answers = 1; answers <= 3; answers++) {
            y.ask(0);
            Bouncers.answer(y, 0, "a");
            y.pass(1);
        }
        Check.same("51: three of two", y.averageLevel(), 1.5);
    }
}
