/** Objects that the tests of the boundary cases begin with. */
final class Houses {
    /** As many riddles, guests and doors as there can be. */
    static final String FULL = "bouncer 2 9;riddle a 0;riddle b 0;riddle c 0;riddle d 0;riddle e 0;riddle f 0;"
            + "riddle g 0;riddle h 0;riddle i 0;riddle j 0;guest a;guest b;guest c;guest d;guest e;guest f;guest g;"
            + "guest h;door i 0 0 9;door j 0 0 9;door k 0 0 9;door l 0 0 9;";
    static final String EMPTY = "bouncer 1 1;";

    private Houses() {
    }

    static VegetableBouncer busy() {
        return busyWith("beet");
    }

    /** The first state with changes to undo, both slots filled, an output text, an error and a filled buffer. */
    static VegetableBouncer busyWith(String buffer) {
        VegetableBouncer x = new VegetableBouncer();
        x.save(0);
        x.pass(2);
        x.save(1);
        x.setWarp(3, 7);
        x.ask(2);
        x.printDoor(0);
        Bouncers.type(x, "bouncer 1 1;oops");
        x.load();
        Bouncers.type(x, buffer);
        return x;
    }

    /** The state of a text with changes to undo, slot 1 filled, an output text and a word in the buffer. */
    static VegetableBouncer dressed(String text) {
        VegetableBouncer x = new VegetableBouncer();
        x.pass(1);
        x.save(1);
        x.printDoor(0);
        Bouncers.type(x, text);
        if (x.load() == VegetableBouncer.PARSE_ERROR) {
            throw new IllegalStateException("error " + x.errorCode() + " at " + x.errorOffset() + " of " + text);
        }
        Bouncers.type(x, "beet");
        return x;
    }

    /** Statements by which a guest fails in a row, for a base of 1; the guest still waits behind the last one. */
    static String failing(String guest, int failures) {
        StringBuilder text = new StringBuilder();
        for (int failure = 1; failure <= failures; failure++) {
            String wait = failure == 1 ? "" : "pass " + (1 << failure - 2) + ";";
            text.append(wait).append("ask ").append(guest).append(";answer ").append(guest).append(" wrong;");
        }
        return text.toString();
    }

    /** Statements by which a guest answers rightly in a row, each token being gone after a minute. */
    static String answering(String guest, String vegetable, int times) {
        return ("ask " + guest + ";answer " + guest + " " + vegetable + ";pass 1;").repeat(times);
    }

    static void passMany(VegetableBouncer x, int minutes) {
        for (int left = minutes; left > 0; left -= 999) {
            x.pass(Math.min(left, 999));
        }
    }
}
