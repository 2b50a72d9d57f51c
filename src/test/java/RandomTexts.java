/** Setup texts for RandomRunsTest: most without an error, some with one. */
final class RandomTexts {
    private static final String[] VEGETABLES = {"leek", "beet", "pea", "kale", "yam", "a", "b", "c", "d", "e", "f",
        "g", "abcdefgh", "abcdefghi"};
    private static final String[] GUESTS = {"ann", "bob", "cid", "dan", "a", "b", "c", "d", "e", "guest"};
    private static final String[] DOORS = {"west", "east", "mid", "up", "down", "a"};
    private static final String[] BLANKS = {" ", " ", " ", "  ", "\n", " \n"};
    private static final String[] FOREIGN = {"-", "A", "#", "5", ";", "x", "\u00ff", "", "{"};

    private RandomTexts() {
    }

    static String text(NumberRow row) {
        String text = "bouncer " + (1 + row.below(row.below(9) == 0 ? 33 : 6)) + " " + row.below(row.below(2) == 0
                ? 1010 : 100) + ";";
        int statements = row.below(6) == 0 ? row.below(8) : 8 + row.below(40);
        boolean mayErr = row.below(3) == 0;
        for (int count = 0; count < statements; count++) {
            String longer = text + statement(row, count);
            boolean isKept = new SlowText(longer).errorCode == 0 || mayErr && row.below(25) == 0;
            text = isKept && longer.length() <= 600 ? longer : text;
        }
        return mayErr && row.below(4) == 0 ? text.substring(row.below(3), text.length() - row.below(3)) : text;
    }

    private static String statement(NumberRow row, int count) {
        boolean isFounding = count < 12 || row.below(6) == 0;
        String statement = isFounding ? founding(row, count) : acting(row);
        if (row.below(30) == 0) {
            int cut = row.below(statement.length());
            statement = statement.substring(0, cut) + pick(row, FOREIGN) + statement.substring(cut);
        }
        return statement.replace(" ", pick(row, BLANKS)) + ";" + (row.below(9) == 0 ? "\n" : "");
    }

    private static String founding(NumberRow row, int count) {
        switch (row.below(2) == 0 ? row.below(3) : count % 3) {
            case 0:
                return "riddle " + pick(row, VEGETABLES) + " " + (row.below(3) == 0 ? row.below(11) : row.below(3));
            case 1:
                return "guest " + pick(row, GUESTS);
            default:
                return "door " + pick(row, DOORS) + " " + hour(row) + " " + hour(row) + " " + room(row);
        }
    }

    private static String acting(NumberRow row) {
        String guest = GUESTS[row.below(row.below(3) == 0 ? GUESTS.length : 4)];
        switch (row.below(12)) {
            case 0:
            case 1:
            case 2:
                return "ask " + guest;
            case 3:
            case 4:
            case 5:
                return "answer " + guest + " " + VEGETABLES[row.below(row.below(2) == 0 ? VEGETABLES.length : 3)];
            case 6:
            case 7:
                return "enter " + guest + " " + pick(row, DOORS);
            case 8:
                return (row.below(2) == 0 ? "leave " : "forgive ") + guest;
            case 9:
                return "warp " + pick(row, VEGETABLES) + " " + row.below(11);
            case 10:
                return "hours " + pick(row, DOORS) + " " + hour(row) + " " + hour(row);
            default:
                return "pass " + (row.below(3) == 0 ? row.below(1005) : row.below(20));
        }
    }

    private static int hour(NumberRow row) {
        return row.below(3) == 0 ? row.below(25) : row.below(3);
    }

    private static int room(NumberRow row) {
        return row.below(20) == 0 ? row.below(11) : 1 + row.below(2);
    }

    private static String pick(NumberRow row, String[] of) {
        return of[row.below(of.length)];
    }
}
