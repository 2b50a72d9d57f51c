import java.util.NoSuchElementException;

/** Makes bouncers from texts. */
final class Bouncers {
    private Bouncers() {
    }

    /** Types a text into the input buffer, which holds at most 600 bytes and is empty before. */
    static void type(VegetableBouncer bouncer, String text) {
        for (int from = 0; from < text.length(); from += 20) {
            bouncer.append(four(text, from), four(text, from + 4), four(text, from + 8), four(text, from + 12),
                    four(text, from + 16));
        }
        bouncer.truncate(text.length());
    }

    private static int four(String text, int from) {
        int value = 0;
        for (int index = from; index < from + 4; index++) {
            value = value << 8 | (index < text.length() ? text.charAt(index) : ' ');
        }
        return value;
    }

    static VegetableBouncer loaded(String text) {
        VegetableBouncer bouncer = new VegetableBouncer();
        type(bouncer, text);
        if (bouncer.load() == VegetableBouncer.PARSE_ERROR) {
            throw new IllegalStateException(
                    "error " + bouncer.errorCode() + " at " + bouncer.errorOffset() + " of " + text);
        }
        return bouncer;
    }

    /** The error of a text as code@offset, or ok. */
    static String errorOf(String text) {
        VegetableBouncer bouncer = new VegetableBouncer();
        type(bouncer, text);
        int result = bouncer.load();
        if (result != VegetableBouncer.PARSE_ERROR) {
            return bouncer.errorCode() == 0 && bouncer.errorOffset() == -1 ? "ok" : "load answered " + result;
        }
        return bouncer.errorCode() + "@" + bouncer.errorOffset();
    }

    static int answer(VegetableBouncer bouncer, int guest, String word) {
        type(bouncer, word);
        return bouncer.answer(guest);
    }

    static String output(VegetableBouncer bouncer) {
        StringBuilder text = new StringBuilder();
        try {
            for (int index = 0; index < 1000; index++) {
                text.append((char) bouncer.outputByte(index));
            }
        } catch (NoSuchElementException end) {
            return text.toString();
        }
        return text.toString();
    }
}
